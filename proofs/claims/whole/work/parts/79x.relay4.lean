section
variable {K : Nat → pcell} {tb : Nat} {g g' g1 g2 : gS} {r r' r0 r1 r2 s s' : rS} {x x' x1 x2 xb : xS} {h h' h1 h2 : pheap} {a n k m i j c p q d va ta L A base o mi b u N cm ou M t sv dd ss : Nat} {Q : Option Value → pheap → Prop} {e : Int32} {av : Nat → Nat} {sr ws : Nat → Int32} {ml : Nat → Nat}
/-- a call whose deed begins: it may end, and has no call within -/
def EQ (g : gS) (r : rS) (c : Nat) : Prop := ((g.2.2.2.2.2 14) c = (g.2.2.2.2.2 15) c → (r.2.2.1 118) c = 0) ∧ ((g.2.2.2.2.2 14) c ≠ (g.2.2.2.2.2 15) c → (g.2.2.2.2.2 34) c = 0 ∧ ((r.2.2.1 125) c = 1 ∨ (r.2.2.1 123) (240 * c + 2) ≠ (r.2.2.1 93) ((g.2.2.2.2.2 15) c))) ∧ ∀ i, i < (g.1 0 5) → (g.2.2.2.2.2 18) i ≠ c + 1
theorem eq_ep (h : EQ g r c) : EP g r c := ⟨h.1, h.2.1, fun i hi z => absurd z (h.2.2 i hi)⟩
theorem bs_dj (hcn : c < N) (hN : N < 60) (hn : n ≤ 3) : bsO g c + n ≤ 363 + 3 * N ∨ 363 + 3 * N + n ≤ bsO g c := by
  unfold bsO
  split <;> omega
theorem hx_of (hw : World K tb g r x h) (hca : CA K g r h c o A n av sr) (heq : EQ g r c) (hlk : LK g r c t m n sr) : HX r g ((g.2.2.2.2.2 12) o) t m (c + 1) := fun _ => by
  obtain ⟨h1, h2, -⟩ := hca
  obtain ⟨s1, -⟩ := ca_s hw h1 h2
  obtain ⟨u1, u2, u3, u4, u5, u6, u7, u8, u9, -⟩ := w_cal hw c h1
  have hsv := (u9 (by omega)).2
  rw [show (g.2.2.2.2.2 17) c - 1 = o by omega] at hsv
  rw [show c + 1 - 1 = c by omega]
  refine ⟨hsv.symm, heq.1, heq.2.1, heq.2.2, by omega, ?_⟩
  rw [show (g.2.2.2.2.2 17) c - 1 = o by omega, ← s1]
  exact hlk.2.1.symm
/-- a relay within the desk -/
theorem rl_loc (hw : World K tb g r x h) (hca : CA K g r h c o A n av sr) (hA0 : g.2.2.2.1 A = (0, 0)) (heq : EQ g r c) (ht : t < (g.1 0 4)) (hlk : LK g r c t m n sr) (hn : (g.1 0 5) < 60) (he : (g.2.2.2.2.2 12) t = (g.2.2.2.2.2 12) o) : ∃ g' r' x' h', World K tb g' r' x' h' ∧ (g'.1 0 5) = (g.1 0 5) + 1 ∧ (∀ j, j < (g.1 0 5) → (g'.1 6) j = (g.1 6) j) ∧ (g'.1 6) (g.1 0 5) = h.1 ∧ h.1 ≤ h'.1 ∧ h'.1 ≤ h.1 + 2 ∧ h'.2.1 ≤ h.2.1 + 117 ∧ CA K g' r' h' (g.1 0 5) t A n av sr ∧ g'.2.2.2.1 A = (0, 0) ∧ EQ g' r' (g.1 0 5) ∧ (g'.2.2.2.2.2 14) (g.1 0 5) = (g'.2.2.2.2.2 15) (g.1 0 5) ∧
    (∀ b, b < h.1 → (g.2.2.2.1 b).1 ≠ 4 → h'.2.2 b = h.2.2 b) ∧
    (∀ d r0 Q, Go (d + 8) 96 0 [.ref 5, .ref ((g.1 4) ((g.2.2.2.2.2 12) o)), .ref ((g.1 4) ((g.2.2.2.2.2 12) o)), .ref ((g.1 5) t), .int (nI m), .ref ((g.1 6) c), mk0] [] (putR r0 (putX x h)) Q = Q (some (.ref h.1)) (putR r0 (putX x' h'))) ∧
    (∀ (y : Int32) d (H : pheap) Q, 146 ≤ H.1 → Go (d + 6) 248 264 (rlL g c o t m (8 * (g.2.2.2.2.2 13) o + (g.2.2.2.2.2 16) c) 1 1 (.int y) mk0) [] (putR r H) Q = Q (some (.int 0)) (putR r' H)) := by
  have hh := sim_146 hw.1
  have hhx := hx_of hw hca heq hlk
  have hca' := hca
  obtain ⟨h1, h2, h3, h4, h5⟩ := hca
  obtain ⟨s1, s2, s3, s4, s5, s6⟩ := ca_s hw h1 h2
  have hb := bs_le hw h1 h3.1.2.2.2.2.1
  obtain ⟨n1, n2, n3⟩ := w_nc hw
  obtain ⟨d1, d2, -⟩ := w_nd hw
  obtain ⟨o1, o2, -⟩ := w_no hw
  obtain ⟨u1, u2, u3, u4, u5, u6, u7, u8, u9, -⟩ := w_cal hw c h1
  obtain ⟨v1, v2, v3, v4, -⟩ := w_obj hw t ht
  obtain ⟨a1, a2, -⟩ := s_cal hw.1 h1
  have hrz : (r.2.2.1 124) (g.1 0 5) = 0 := ((hw.2.1.2.2.2.2.2.2.2.2.2.2 (g.1 0 5) hn 0 (by omega)).1 (Nat.le_refl _)).2.1
  have hn3 : n ≤ 3 := h3.1.2.2.2.2.1
  have hdj := bs_dj (g := g) (n := n) h1 hn hn3
  have hco := cps_ok (r := raR r (g.1 0 5) c ((g.2.2.2.2.2 12) o) t m ((g.2.2.2.2.2 12) t)) hdj n (Nat.le_refl _)
  have hcl2 := cl2_co hco.1 (ra_cl2 (c := c) (dd := (g.2.2.2.2.2 12) o) (t := t) (m := m) (ss := (g.2.2.2.2.2 12) t) hn hrz)
  have hcl2' : ∀ dd, dd = (g.2.2.2.2.2 12) o → Cl2 (cpsR (raR r (g.1 0 5) c ((g.2.2.2.2.2 12) o) t m ((g.2.2.2.2.2 12) t)) (bsO g c) (363 + 3 * (g.1 0 5)) n) ((r.1 75)) (g.1 0 5) dd ((g.2.2.2.2.2 12) t) (t + 1) m (c + 1) 0 := fun dd e => by rw [e]; exact hcl2
  have hrow : ∀ a, a ≠ 88 → a ≠ 89 → (cpsR (raR r (g.1 0 5) c ((g.2.2.2.2.2 12) o) t m ((g.2.2.2.2.2 12) t)) (bsO g c) (363 + 3 * (g.1 0 5)) n).2.2.1 a = (raR r (g.1 0 5) c ((g.2.2.2.2.2 12) o) t m ((g.2.2.2.2.2 12) t)).2.2.1 a := hco.1.2.2.1
  obtain ⟨g', x', h', w1, w2, w3, w4, w5, w6, w7⟩ := new_local (r' := cpsR (raR r (g.1 0 5) c ((g.2.2.2.2.2 12) o) t m ((g.2.2.2.2.2 12) t)) (bsO g c) (363 + 3 * (g.1 0 5)) n) (o := t) (cm := m) (ou := c + 1) hw hn ht hlk.1 (by omega) (clx_t (clx_cps n) ra_clx) (cl1_t (cl1_cps (n := n) ⟨by omega, by omega⟩ n (Nat.le_refl _)) ra_cl1) (hcl2' _ he) (by rw [hrow _ (by decide) (by decide)]; exact ra_mv hn) (by rw [he]; exact hhx)
  have hargs := args_nf (q := 363 + 3 * (g.1 0 5)) hw h3 hA0 w2 w3 (by omega) (fun k hk => cq_t (hco.2.2 k hk) ra_cq)
  obtain ⟨f1, f2, f3, f4, f5, f6, f7, f8, ⟨f9, f10, f11, f12, f13⟩, f14, f15⟩ := w2
  have gwa := f8 10 (by decide) (by decide) (by decide) (by decide) (by decide) (by decide) (by decide) (by decide) (by decide) (by decide) (by decide) (by decide) (by decide) (by decide)
  have gos := f8 13 (by decide) (by decide) (by decide) (by decide) (by decide) (by decide) (by decide) (by decide) (by decide) (by decide) (by decide) (by decide) (by decide) (by decide)
  have hbs : bsO g' (g.1 0 5) = 363 + 3 * (g.1 0 5) := by unfold bsO; rw [f9, f10, if_pos rfl]
  refine ⟨g', _, x', h', w1, f1, fun j hj => f3 j (by omega), f2, w3, w4, w5, ⟨by omega, f11, by rw [hbs]; exact hargs.1, by rw [gwa, gos, f12]; exact hlk.2.2.1, fun k hk => ?_⟩, hargs.2, ⟨fun _ => hcl2.2.2.2.2.2.1, fun z => absurd (f9.trans f10.symm) z, fun i hi z => ?_⟩, f9.trans f10.symm, f15, fun d r0 Q => ?_, fun y d H Q hH => ?_⟩
  · rw [gos, f12, hrow _ (by decide) (by decide)]
    exact (hlk.2.2.2 k (Nat.zero_le _) hk).symm
  · obtain ⟨-, -, -, -, -, -, -, -, -, -, y11, -⟩ := w_cal w1 i hi
    omega
  · have := w7 d r0 Q
    rw [if_neg (by omega), show c + 1 - 1 = c by omega, pv_n (by omega), he] at this
    exact this
  · rw [r_rel2 (r := r) (N := (g.1 0 5)) (o := o) (m := m) (i := 8 * (g.2.2.2.2.2 13) o + (g.2.2.2.2.2 16) c) (hr := 1) (y := y) (by omega) hn hn3 s3 (by omega) h1 n1 u1 u3 (by omega) (by omega) (by rw [s5, h4]) v1 hb hdj d H Q hH]
    unfold rlL
    have hh := hH
    simp (disch := first | exact c1_i _ | exact c1_r _ | exact c1_n | exact c1_m | omega | assumption | (apply ac_l; omega) | (apply ac_r; omega) | decide | exact Or.inl rfl) only [e_248_342, e_248_344, e_248_347, e_248_347n, e_248_348, e_248_350, e_248_353, e_248_353n, e_248_354, e_248_356, e_248_359, e_248_360, Option.toList_some, Option.toList_none, List.cons_append, List.nil_append, catS_cons, catS_nil, cat_int, cat_long, cat_ref, cat_null, c1_i, c1_r, c1_n, c1_m, true_and, and_true, and_self, putR_1, putR_u, eq_self, Nat.reduceLT, Nat.reduceLeDiff, Nat.reduceAdd, Nat.reduceEqDiff, vk_i, vk_l, vk_r, vk_n, vk_0, vk_1, if_true, if_false, not_true_eq_false, not_false_eq_true, false_and, and_false, ne_eq, true_or, or_true, ite_not, reduceCtorEq, pr_73, pr_74, pr_75, pr_76, pr_77, pr_78, pr_79, pr_80, pr_81, pr_82, pr_83, pr_84, pr_85, pr_86, pr_87, pr_88, pr_89, pr_90, pr_91, pr_92, pr_93, pr_94, pr_95, pr_96, pr_97, pr_98, pr_99, pr_100, pr_101, pr_102, pr_103, pr_104, pr_105, pr_106, pr_107, pr_108, pr_109, pr_110, pr_111, pr_112, pr_113, pr_114, pr_115, pr_116, pr_117, pr_118, pr_119, pr_120, pr_121, pr_122, pr_123, pr_124, pr_125, pr_126, pr_127, pr_128, pr_129, pr_130, pr_131, pr_132, pr_133, pr_134, pr_135, pr_136, pr_137, pr_138, pr_139, pr_140, pr_141, pr_142, pr_143, pr_144, pr_145, rf_0, rf_1, hI_1, rf_2, hI_2, rf_3, hI_3, rf_4, hI_4, rf_5, hI_5, rf_6, hI_6, rf_7, hI_7, rf_8, rf_9, rf_10, rf_11, hI_11, rf_12, rf_13, rf_14, rf_15, rf_16, hI_16, rf_17, rf_18, rf_19, rf_20, rf_21, rf_22, rf_23, hI_23, rf_24, rf_25, rf_26, rf_27, rf_28, hI_28, rf_29, rf_30, hI_30, rf_31, rf_32, hI_32, rf_33, hI_33, rf_34, rf_35, rf_36, rf_37, rf_38, rf_39, rf_40, rf_41, hI_41, rf_42, rf_43, rf_44, rf_45, rf_46, rf_47, rf_48, rf_49, rf_50, hI_50, rf_51, rf_52, rf_53, rf_54, rf_55, rf_56, rf_57, hI_57, rf_58, rf_59, rf_60, rf_61, rf_62, rf_63, rf_64, rf_65, rf_66, rf_67, rf_68, rf_69, rf_70, rf_71, rf_72, rf_73, rf_74, rf_75, hI_75, rf_76, rf_77, rf_78, hI_78, rf_79, rf_80, rf_81, hI_81, rf_82, hI_82, rf_83, rf_84, hI_84, rf_85, rf_86, rf_87, hI_87, rf_88, hI_88, rf_89, hI_89, rf_90, hI_90, rf_91, rf_92, rf_93, rf_94, hI_94, rf_95, hI_95, rf_96, rf_97, rf_98, rf_99, rf_100, hset_W, hA_74, hL_75, hA_76, hL_77, hA_78, hL_79, hA_80, hL_81, hA_82, hL_83, hA_84, hA_85, hA_86, hL_87, hA_88, hA_89, hA_90, hA_91, hA_92, hA_93, hA_94, hA_95, hA_96, hA_97, hA_98, hA_99, hA_100, hA_101, hA_102, hA_103, hA_104, hA_105, hL_106, hA_107, hA_108, hA_109, hA_110, hA_111, hA_112, hA_113, hA_114, hA_115, hA_116, hA_117, hA_118, hA_119, hA_120, hA_121, hA_122, hA_123, hA_124, hA_125, hA_126, hA_127, hA_128, hA_129, hA_130, hA_131, hA_132, hA_133, hA_134, hA_135, hA_136, hA_137, hA_138, hA_139, hA_140, hA_141, hA_142, hA_143, hA_144, hA_145, ni_ixL, ni_clL, ni_add, ni_mul, ni_lt, ni_le, ni_eq, ni_clamp, ni_ix, ni_lt0, ni_0le, ni_ltL, ni_Llt, ni_leL, ni_Lle, ni_eqL, ni_addL, ni_Ladd, ni_mulL, ni_Lmul, ni_subL, ni_sub, ni_Lsub, le_t, le_f, lt_t, lt_f, eq_f, il_lt, il_l0, il_g0, il_l1, il_g1, il_l2, il_g2, il_l3, il_g3, il_l4, il_g4, il_l5, il_g5, il_l7, il_g7, il_l8, il_g8, il_l9, il_g9, il_l10, il_g10, il_l15, il_g15, il_l20, il_g20, il_l23, il_g23, il_l24, il_g24, il_l60, il_g60, il_l100, il_g100, il_l999, il_g999, il_l1000, il_g1000, r_in, putR_lt hh, sA_1, sA_s, i1_0, bs_0, bs_1, im_lt, im_ge, im_eq, ni_em]
/-- a relay to another desk -/
theorem rl_rem (hw : World K tb g r x h) (hca : CA K g r h c o A n av sr) (heq : EQ g r c) (ht : t < (g.1 0 4)) (hlk : LK g r c t m n sr) (hn : (g.1 0 5) < 60) (hne : ¬ (g.2.2.2.2.2 12) t = (g.2.2.2.2.2 12) o) {ag : Nat} (hb1 : ag ≤ b) (hb2 : b ≤ 200) (hag : (r.2.2.1 93) ((g.2.2.2.2.2 12) t) = nI b) (hx : XM x1 x) (hr : RM r1 r) (hq : Wq g x1 r1 L M ml) (hL : 3 ≤ L) (hm0 : (r1.2.2.1 134) 0 = nI t) (hm1 : (r1.2.2.1 134) 1 = nI m) (hm2 : (r1.2.2.1 134) 2 = nI ag) (hp : PrsOK g ((r.2.2.1 80)) ((r1.2.2.1 134)) 3 0 ml L M ml ((List.range n).map sr)) : ∃ g' r' x' h' xA hA, World K tb g' r' x' h' ∧ (g'.1 0 5) = (g.1 0 5) + 1 ∧ (∀ j, j < (g.1 0 5) → (g'.1 6) j = (g.1 6) j) ∧ h.1 ≤ h'.1 ∧ h'.1 ≤ h.1 + 3 ∧ h'.2.1 ≤ h.2.1 + 357 ∧ (r'.1 57) = nI ((g.1 0 5) + 1) ∧ (r'.2.2.1 114) (g.1 0 5) = nI ((g.2.2.2.2.2 12) o) ∧ (r'.2.2.1 117) (g.1 0 5) = nI ((g.2.2.2.2.2 12) t) ∧ h.1 < hA.1 ∧ (hA.2.2 h.1).1 = 3 ∧ xA.2 0 = x.2 0 ∧
    (∀ b, b < h.1 → (g.2.2.2.1 b).1 ≠ 4 → hA.2.2 b = h.2.2 b) ∧
    (∀ d r0 Q, Go (d + 8) 96 0 [.ref 5, .ref ((g.1 4) ((g.2.2.2.2.2 12) o)), .ref ((g.1 4) ((g.2.2.2.2.2 12) t)), .ref ((g.1 5) t), .int (nI m), .ref ((g.1 6) c), mk0] [] (putR r0 (putX x1 h)) Q = Q (some (.ref h.1)) (putR r0 (putX xA hA))) ∧
    (∀ d r0 Q, Go (d + 1) 98 0 [.ref 70] [] (putR r0 (putX xA hA)) Q = Q (some (.ref hA.1)) (putR r0 (putX xA (hnew hA 22 L (bytF xA L))))) ∧
    (∀ d r0 Q, Go (d + 6) 99 0 [.ref 5, .ref h.1] [] (putR r0 (putX xA (hset (hnew hA 22 L (bytF xA L)) h.1 11 (.ref hA.1)))) Q = Q none (putR r0 (putX x' h'))) ∧
    (∀ (y : Int32) d (H : pheap) Q, 146 ≤ H.1 → Go (d + 6) 248 264 (rlL g c o t m (8 * (g.2.2.2.2.2 13) o + (g.2.2.2.2.2 16) c) 0 1 (.int y) mk0) [] (putR r1 H) Q = Q (some (.int 0)) (putR r' H)) := by
  have hh := sim_146 hw.1
  have hhx := hx_of hw hca heq hlk
  obtain ⟨h1, h2, h3, h4, h5⟩ := hca
  obtain ⟨s1, s2, s3, s4, s5, s6⟩ := ca_s hw h1 h2
  have hb := bs_le hw h1 h3.1.2.2.2.2.1
  obtain ⟨n1, n2, n3⟩ := w_nc hw
  obtain ⟨d1, d2, -⟩ := w_nd hw
  obtain ⟨o1, o2, -⟩ := w_no hw
  obtain ⟨u1, u2, u3, u4, u5, u6, u7, u8, u9, -⟩ := w_cal hw c h1
  obtain ⟨q1, q2, q3, q4, -⟩ := w_obj hw o s4
  obtain ⟨v1, v2, v3, v4, -⟩ := w_obj hw t ht
  obtain ⟨a1, a2, -⟩ := s_cal hw.1 h1
  have hrz : (r.2.2.1 124) (g.1 0 5) = 0 := ((hw.2.1.2.2.2.2.2.2.2.2.2.2 (g.1 0 5) hn 0 (by omega)).1 (Nat.le_refl _)).2.1
  have hn3 : n ≤ 3 := h3.1.2.2.2.2.1
  have hdj := bs_dj (g := g) (n := n) h1 hn hn3
  have hrm : ∀ a, a ≠ 134 → a ≠ 135 → a ≠ 136 → a ≠ 137 → r1.2.2.1 a = r.2.2.1 a := hr.2.2.1
  have hw1 : World K tb g r1 x1 h := w_xm (w_rm hw hr) hx
  have hrz1 : (r1.2.2.1 124) (g.1 0 5) = 0 := by rw [hrm _ (by decide) (by decide) (by decide) (by decide)]; exact hrz
  have hco := cps_ok (r := raR r1 (g.1 0 5) c ((g.2.2.2.2.2 12) o) t m ((g.2.2.2.2.2 12) t)) hdj n (Nat.le_refl _)
  have hcl2 := cl2_co hco.1 (ra_cl2 (c := c) (dd := (g.2.2.2.2.2 12) o) (t := t) (m := m) (ss := (g.2.2.2.2.2 12) t) hn hrz1)
  have hrow : ∀ a, a ≠ 88 → a ≠ 89 → (cpsR (raR r1 (g.1 0 5) c ((g.2.2.2.2.2 12) o) t m ((g.2.2.2.2.2 12) t)) (bsO g c) (363 + 3 * (g.1 0 5)) n).2.2.1 a = (raR r1 (g.1 0 5) c ((g.2.2.2.2.2 12) o) t m ((g.2.2.2.2.2 12) t)).2.2.1 a := hco.1.2.2.1
  have hcx : CLx (cpsR (raR r1 (g.1 0 5) c ((g.2.2.2.2.2 12) o) t m ((g.2.2.2.2.2 12) t)) (bsO g c) (363 + 3 * (g.1 0 5)) n) r1 := clx_t (clx_cps n) ra_clx
  have hc1 : Cl1 (cpsR (raR r1 (g.1 0 5) c ((g.2.2.2.2.2 12) o) t m ((g.2.2.2.2.2 12) t)) (bsO g c) (363 + 3 * (g.1 0 5)) n) r1 (g.1 0 5) := cl1_t (cl1_cps (n := n) ⟨by omega, by omega⟩ n (Nat.le_refl _)) ra_cl1
  have hmv : (cpsR (raR r1 (g.1 0 5) c ((g.2.2.2.2.2 12) o) t m ((g.2.2.2.2.2 12) t)) (bsO g c) (363 + 3 * (g.1 0 5)) n).2.2.1 130 (g.1 0 5) = 0 := by rw [hrow _ (by decide) (by decide)]; exact ra_mv hn
  have hmsg : (cpsR (raR r1 (g.1 0 5) c ((g.2.2.2.2.2 12) o) t m ((g.2.2.2.2.2 12) t)) (bsO g c) (363 + 3 * (g.1 0 5)) n).2.2.1 134 = (r1.2.2.1 134) := by rw [hrow _ (by decide) (by decide)]; rfl
  have hms : (cpsR (raR r1 (g.1 0 5) c ((g.2.2.2.2.2 12) o) t m ((g.2.2.2.2.2 12) t)) (bsO g c) (363 + 3 * (g.1 0 5)) n).1 81 = nI L := by rw [hco.1.1]; exact hq.2.2.2.1
  have hrun2 := fun (y : Int32) d (H : pheap) Q hH => r_rel2 (r := r1) (N := (g.1 0 5)) (o := o) (m := m) (i := 8 * (g.2.2.2.2.2 13) o + (g.2.2.2.2.2 16) c) (hr := 0) (y := y) (g := g) (t := t) (c := c) (n := n) (by omega) hn hn3 s3 (by omega) h1 (w_nc hw1).1 (w_cal hw1 c h1).1 (w_cal hw1 c h1).2.2.1 (by omega) (by omega) (by rw [hrm _ (by decide) (by decide) (by decide) (by decide), s5, h4]) (w_obj hw1 t ht).1 hb hdj d H Q hH
  generalize cpsR (raR r1 (g.1 0 5) c ((g.2.2.2.2.2 12) o) t m ((g.2.2.2.2.2 12) t)) (bsO g c) (363 + 3 * (g.1 0 5)) n = rr at hcl2 hcx hc1 hmv hmsg hms hrun2
  have hL2 : L ≤ 240 := hq.2.2.2.2.1
  have hkq : ∀ k, k < L → (kqR rr (g.1 0 5) L).2.2.1 123 (240 * (g.1 0 5) + k) = (r1.2.2.1 134) k := fun k hk => by
    unfold kqR
    rw [sR_s, wrF_i _ _ hk, hmsg]
  have hcl3 : Cl2 (kqR rr (g.1 0 5) L) ((r1.1 75)) (g.1 0 5) ((g.2.2.2.2.2 12) o) ((g.2.2.2.2.2 12) t) (t + 1) m (c + 1) L := by
    obtain ⟨y1, y2, y3, y4, y5, y6, y7, y8, y9, y10, y11, y12, y13, y14, -⟩ := hcl2
    exact ⟨y1, y2, y3, y4, y5, y6, y7, y8, y9, y10, y11, y12, y13, y14, upN_s _ _ _⟩
  have hhx1 : HX r1 g ((g.2.2.2.2.2 12) o) t m (c + 1) := by
    unfold HX at hhx ⊢
    rw [hrm _ (by decide) (by decide) (by decide) (by decide), hrm _ (by decide) (by decide) (by decide) (by decide), hrm _ (by decide) (by decide) (by decide) (by decide), hrm _ (by decide) (by decide) (by decide) (by decide), hrm _ (by decide) (by decide) (by decide) (by decide)]
    exact hhx
  obtain ⟨g', xA, hA, w1, w2, w3, w4, w5, w6, w7, w8, w9, w10, w11⟩ := new_remote (r' := kqR rr (g.1 0 5) L) (o := t) (cm := m) (ou := c + 1) (i := (g.2.2.2.2.2 12) o) hw1 hn ht hlk.1 q2 (fun z => hne z.symm) (by omega) hq hL (clx_t clx_kq hcx) (cl1_t (cl1_kq hL2) hc1) hcl3 hmv hhx1 hkq hm0 hm1 ⟨ag, b, hb1, hb2, hm2, by rw [hrm _ (by decide) (by decide) (by decide) (by decide)]; exact hag⟩ (by
    rw [hlk.2.2.1, hrm 80 (by decide) (by decide) (by decide) (by decide), hrm 86 (by decide) (by decide) (by decide) (by decide)]
    have : (List.range n).map (fun a => (r.2.2.1 86) (3 * (8 * (g.2.2.2.2.2 13) t + m) + a)) = (List.range n).map sr := List.map_congr_left (fun k hk => (hlk.2.2.2 k (Nat.zero_le _) (List.mem_range.mp hk)).symm)
    rw [this]
    exact hp)
  obtain ⟨f1, f2, f3, f4, f5, f6, f7, f8, ⟨f9, f10, f11, f12, f13⟩, f14, f15⟩ := w2
  obtain ⟨g2, rF, xF, hF, k1, k2, k3, k4, k5, k6, k7, ⟨k8, k9⟩, k10, k11⟩ := snd_req (c := (g.1 0 5)) w1 (by rw [f1]; omega) (by rw [f9, f10]; exact fun z => hne z.symm)
  rw [f2] at k10
  have hFn : (g2.1 0 5) = (g.1 0 5) + 1 := by rw [k1.1]; exact f1
  obtain ⟨z1, z2, z3, z4, -⟩ := w_cal k4 (g.1 0 5) (by omega)
  have gca : (g2.2.2.2.2.2 14) = (g'.2.2.2.2.2 14) := k1.2.2.2.2.2 14 (by decide) (by decide)
  have gsv : (g2.2.2.2.2.2 15) = (g'.2.2.2.2.2 15) := k1.2.2.2.2.2 15 (by decide) (by decide)
  refine ⟨g2, rF, xF, hF, xA, hA, k4, hFn, fun j hj => by rw [k1.1]; exact f3 j (by omega), ?_, ?_, ?_, by rw [(w_nc k4).1, hFn], by rw [z1, gca, f9], by rw [z3, gsv, f10], w3, w6, ?_, fun b b1 b2 => w9 b b1 (Or.inl b2), fun d r0 Q => ?_, w11, k10, fun y d H Q hH => ?_⟩
  · rw [k5, hs_1, hn_1]; omega
  · rw [k5, hs_1, hn_1]; omega
  · rw [k6, hs_u, hn_u]; omega
  · rw [w7 0 (by decide), hx.1]
  · have := w10 d r0 Q
    rw [if_neg (by omega), show c + 1 - 1 = c by omega, pv_n (by omega)] at this
    exact this
  · rw [hrun2 y d H Q hH]
    unfold rlL
    have c1 := fun Q => r_keep (d := d + 4) (r := rr) (h := H) (n := (g.1 0 5)) (L := L) (Q := Q) hH hn hms hL2
    have c2 := fun Q => k11 d H Q hH
    have hh := hH
    simp (disch := first | exact c1_i _ | exact c1_r _ | exact c1_n | exact c1_m | omega | assumption | (apply ac_l; omega) | (apply ac_r; omega) | decide | exact Or.inl rfl) only [e_248_342, e_248_344, e_248_347, e_248_347n, e_248_348, e_248_350, e_248_353, e_248_353n, e_248_354, e_248_356, e_248_359, e_248_360, Option.toList_some, Option.toList_none, List.cons_append, List.nil_append, catS_cons, catS_nil, cat_int, cat_long, cat_ref, cat_null, c1_i, c1_r, c1_n, c1_m, true_and, and_true, and_self, putR_1, putR_u, eq_self, Nat.reduceLT, Nat.reduceLeDiff, Nat.reduceAdd, Nat.reduceEqDiff, vk_i, vk_l, vk_r, vk_n, vk_0, vk_1, if_true, if_false, not_true_eq_false, not_false_eq_true, false_and, and_false, ne_eq, true_or, or_true, ite_not, reduceCtorEq, pr_73, pr_74, pr_75, pr_76, pr_77, pr_78, pr_79, pr_80, pr_81, pr_82, pr_83, pr_84, pr_85, pr_86, pr_87, pr_88, pr_89, pr_90, pr_91, pr_92, pr_93, pr_94, pr_95, pr_96, pr_97, pr_98, pr_99, pr_100, pr_101, pr_102, pr_103, pr_104, pr_105, pr_106, pr_107, pr_108, pr_109, pr_110, pr_111, pr_112, pr_113, pr_114, pr_115, pr_116, pr_117, pr_118, pr_119, pr_120, pr_121, pr_122, pr_123, pr_124, pr_125, pr_126, pr_127, pr_128, pr_129, pr_130, pr_131, pr_132, pr_133, pr_134, pr_135, pr_136, pr_137, pr_138, pr_139, pr_140, pr_141, pr_142, pr_143, pr_144, pr_145, rf_0, rf_1, hI_1, rf_2, hI_2, rf_3, hI_3, rf_4, hI_4, rf_5, hI_5, rf_6, hI_6, rf_7, hI_7, rf_8, rf_9, rf_10, rf_11, hI_11, rf_12, rf_13, rf_14, rf_15, rf_16, hI_16, rf_17, rf_18, rf_19, rf_20, rf_21, rf_22, rf_23, hI_23, rf_24, rf_25, rf_26, rf_27, rf_28, hI_28, rf_29, rf_30, hI_30, rf_31, rf_32, hI_32, rf_33, hI_33, rf_34, rf_35, rf_36, rf_37, rf_38, rf_39, rf_40, rf_41, hI_41, rf_42, rf_43, rf_44, rf_45, rf_46, rf_47, rf_48, rf_49, rf_50, hI_50, rf_51, rf_52, rf_53, rf_54, rf_55, rf_56, rf_57, hI_57, rf_58, rf_59, rf_60, rf_61, rf_62, rf_63, rf_64, rf_65, rf_66, rf_67, rf_68, rf_69, rf_70, rf_71, rf_72, rf_73, rf_74, rf_75, hI_75, rf_76, rf_77, rf_78, hI_78, rf_79, rf_80, rf_81, hI_81, rf_82, hI_82, rf_83, rf_84, hI_84, rf_85, rf_86, rf_87, hI_87, rf_88, hI_88, rf_89, hI_89, rf_90, hI_90, rf_91, rf_92, rf_93, rf_94, hI_94, rf_95, hI_95, rf_96, rf_97, rf_98, rf_99, rf_100, hset_W, hA_74, hL_75, hA_76, hL_77, hA_78, hL_79, hA_80, hL_81, hA_82, hL_83, hA_84, hA_85, hA_86, hL_87, hA_88, hA_89, hA_90, hA_91, hA_92, hA_93, hA_94, hA_95, hA_96, hA_97, hA_98, hA_99, hA_100, hA_101, hA_102, hA_103, hA_104, hA_105, hL_106, hA_107, hA_108, hA_109, hA_110, hA_111, hA_112, hA_113, hA_114, hA_115, hA_116, hA_117, hA_118, hA_119, hA_120, hA_121, hA_122, hA_123, hA_124, hA_125, hA_126, hA_127, hA_128, hA_129, hA_130, hA_131, hA_132, hA_133, hA_134, hA_135, hA_136, hA_137, hA_138, hA_139, hA_140, hA_141, hA_142, hA_143, hA_144, hA_145, ni_ixL, ni_clL, ni_add, ni_mul, ni_lt, ni_le, ni_eq, ni_clamp, ni_ix, ni_lt0, ni_0le, ni_ltL, ni_Llt, ni_leL, ni_Lle, ni_eqL, ni_addL, ni_Ladd, ni_mulL, ni_Lmul, ni_subL, ni_sub, ni_Lsub, le_t, le_f, lt_t, lt_f, eq_f, il_lt, il_l0, il_g0, il_l1, il_g1, il_l2, il_g2, il_l3, il_g3, il_l4, il_g4, il_l5, il_g5, il_l7, il_g7, il_l8, il_g8, il_l9, il_g9, il_l10, il_g10, il_l15, il_g15, il_l20, il_g20, il_l23, il_g23, il_l24, il_g24, il_l60, il_g60, il_l100, il_g100, il_l999, il_g999, il_l1000, il_g1000, r_in, putR_lt hh, sA_1, sA_s, i1_0, bs_0, bs_1, im_lt, im_ge, im_eq, ni_em, c1, c2]
end
