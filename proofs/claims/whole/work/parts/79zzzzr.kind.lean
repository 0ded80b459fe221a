section
variable {K : Nat → pcell} {tb : Nat} {g g' : gS} {r r' r0 rW rb : rS} {x x' : xS} {h h' : pheap} {d : Nat} {Q : Option Value → pheap → Prop} {B : Nat → Value} {R N f q i p n f0 a L A1 A2 al mo : Nat} {fa c e b c0 u t gd m rm tl tl' : Int32} {w v w0 : Int64} {T : Nat → Int32} {F : Nat → Int64} {P : pB}
theorem nm_eq (h1 : c = 2 → tl = tl') : nmN c rm tl = nmN c rm tl' := by
  unfold nmN
  by_cases c1 : c = 1
  · rw [if_pos c1, if_pos c1]
  · rw [if_neg c1, if_neg c1]
    by_cases c2 : c = 2
    · rw [h1 c2]
    · rw [if_pos c2, if_pos c2]
theorem nm_le : nmN c rm tl ≤ 5 := by
  unfold nmN
  split
  · omega
  · split
    · omega
    · split
      · omega
      · split <;> omega
theorem r_signF (hh : 146 ≤ h.1) (hf : ¬ (r.1 4) = 0) : Go (d + 3) 186 0 [.ref 73, .int e] [] (putR r h) Q = Q none (putR r h) := by
  have z := fun Q gd => r_stands (d := d) (r := r) (h := h) (gd := gd) (Q := Q) hh
  simp only [sd_f hf] at z
  by_cases y : (r.1 7) = e
  · simp (disch := first | exact c1_i _ | exact c1_r _ | exact c1_n | exact c1_m | omega | assumption | (apply ac_l; omega) | (apply ac_r; omega) | decide | exact Or.inl rfl) only [e_186_0, e_186_0n, e_186_1, e_186_1n, e_186_2, e_186_5, e_186_6, e_186_9, e_186_10, e_186_13, e_186_14, e_186_17, e_186_17n, e_186_18, e_186_21, e_186_24, e_186_24n, e_186_25, e_186_28, Option.toList_some, Option.toList_none, List.cons_append, List.nil_append, catS_cons, catS_nil, cat_int, cat_long, cat_ref, cat_null, c1_i, c1_r, c1_n, c1_m, true_and, and_true, and_self, putR_1, putR_u, eq_self, Nat.reduceLT, Nat.reduceLeDiff, Nat.reduceAdd, Nat.reduceEqDiff, vk_i, vk_l, vk_r, vk_n, vk_0, vk_1, if_true, if_false, not_true_eq_false, not_false_eq_true, false_and, and_false, ne_eq, true_or, or_true, ite_not, reduceCtorEq, pr_73, pr_74, pr_75, pr_76, pr_77, pr_78, pr_79, pr_80, pr_81, pr_82, pr_83, pr_84, pr_85, pr_86, pr_87, pr_88, pr_89, pr_90, pr_91, pr_92, pr_93, pr_94, pr_95, pr_96, pr_97, pr_98, pr_99, pr_100, pr_101, pr_102, pr_103, pr_104, pr_105, pr_106, pr_107, pr_108, pr_109, pr_110, pr_111, pr_112, pr_113, pr_114, pr_115, pr_116, pr_117, pr_118, pr_119, pr_120, pr_121, pr_122, pr_123, pr_124, pr_125, pr_126, pr_127, pr_128, pr_129, pr_130, pr_131, pr_132, pr_133, pr_134, pr_135, pr_136, pr_137, pr_138, pr_139, pr_140, pr_141, pr_142, pr_143, pr_144, pr_145, rf_0, rf_1, hI_1, rf_2, hI_2, rf_3, hI_3, rf_4, hI_4, rf_5, hI_5, rf_6, hI_6, rf_7, hI_7, rf_8, rf_9, rf_10, rf_11, hI_11, rf_12, rf_13, rf_14, rf_15, rf_16, hI_16, rf_17, rf_18, rf_19, rf_20, rf_21, rf_22, rf_23, hI_23, rf_24, rf_25, rf_26, rf_27, rf_28, hI_28, rf_29, rf_30, hI_30, rf_31, rf_32, hI_32, rf_33, hI_33, rf_34, rf_35, rf_36, rf_37, rf_38, rf_39, rf_40, rf_41, hI_41, rf_42, rf_43, rf_44, rf_45, rf_46, rf_47, rf_48, rf_49, rf_50, hI_50, rf_51, rf_52, rf_53, rf_54, rf_55, rf_56, rf_57, hI_57, rf_58, rf_59, rf_60, rf_61, rf_62, rf_63, rf_64, rf_65, rf_66, rf_67, rf_68, rf_69, rf_70, rf_71, rf_72, rf_73, rf_74, rf_75, hI_75, rf_76, rf_77, rf_78, hI_78, rf_79, rf_80, rf_81, hI_81, rf_82, hI_82, rf_83, rf_84, hI_84, rf_85, rf_86, rf_87, hI_87, rf_88, hI_88, rf_89, hI_89, rf_90, hI_90, rf_91, rf_92, rf_93, rf_94, hI_94, rf_95, hI_95, rf_96, rf_97, rf_98, rf_99, rf_100, hset_W, hA_74, hL_75, hA_76, hL_77, hA_78, hL_79, hA_80, hL_81, hA_82, hL_83, hA_84, hA_85, hA_86, hL_87, hA_88, hA_89, hA_90, hA_91, hA_92, hA_93, hA_94, hA_95, hA_96, hA_97, hA_98, hA_99, hA_100, hA_101, hA_102, hA_103, hA_104, hA_105, hL_106, hA_107, hA_108, hA_109, hA_110, hA_111, hA_112, hA_113, hA_114, hA_115, hA_116, hA_117, hA_118, hA_119, hA_120, hA_121, hA_122, hA_123, hA_124, hA_125, hA_126, hA_127, hA_128, hA_129, hA_130, hA_131, hA_132, hA_133, hA_134, hA_135, hA_136, hA_137, hA_138, hA_139, hA_140, hA_141, hA_142, hA_143, hA_144, hA_145, ni_ixL, ni_clL, ni_add, ni_mul, ni_lt, ni_le, ni_eq, ni_clamp, ni_ix, ni_lt0, ni_0le, ni_ltL, ni_Llt, ni_leL, ni_Lle, ni_eqL, ni_addL, ni_Ladd, ni_mulL, ni_Lmul, ni_subL, ni_sub, ni_Lsub, le_t, le_f, lt_t, lt_f, eq_f, il_lt, il_l0, il_g0, il_l1, il_g1, il_l2, il_g2, il_l3, il_g3, il_l4, il_g4, il_l5, il_g5, il_l7, il_g7, il_l8, il_g8, il_l9, il_g9, il_l10, il_g10, il_l15, il_g15, il_l20, il_g20, il_l23, il_g23, il_l24, il_g24, il_l60, il_g60, il_l100, il_g100, il_l999, il_g999, il_l1000, il_g1000, r_in, putR_lt hh, sA_1, sA_s, i1_0, bs_0, bs_1, im_lt, im_ge, im_eq, ni_em, y, z, hf]
  · simp (disch := first | exact c1_i _ | exact c1_r _ | exact c1_n | exact c1_m | omega | assumption | (apply ac_l; omega) | (apply ac_r; omega) | decide | exact Or.inl rfl) only [e_186_0, e_186_0n, e_186_1, e_186_1n, e_186_2, e_186_5, e_186_6, e_186_9, e_186_10, e_186_13, e_186_14, e_186_17, e_186_17n, e_186_18, e_186_21, e_186_24, e_186_24n, e_186_25, e_186_28, Option.toList_some, Option.toList_none, List.cons_append, List.nil_append, catS_cons, catS_nil, cat_int, cat_long, cat_ref, cat_null, c1_i, c1_r, c1_n, c1_m, true_and, and_true, and_self, putR_1, putR_u, eq_self, Nat.reduceLT, Nat.reduceLeDiff, Nat.reduceAdd, Nat.reduceEqDiff, vk_i, vk_l, vk_r, vk_n, vk_0, vk_1, if_true, if_false, not_true_eq_false, not_false_eq_true, false_and, and_false, ne_eq, true_or, or_true, ite_not, reduceCtorEq, pr_73, pr_74, pr_75, pr_76, pr_77, pr_78, pr_79, pr_80, pr_81, pr_82, pr_83, pr_84, pr_85, pr_86, pr_87, pr_88, pr_89, pr_90, pr_91, pr_92, pr_93, pr_94, pr_95, pr_96, pr_97, pr_98, pr_99, pr_100, pr_101, pr_102, pr_103, pr_104, pr_105, pr_106, pr_107, pr_108, pr_109, pr_110, pr_111, pr_112, pr_113, pr_114, pr_115, pr_116, pr_117, pr_118, pr_119, pr_120, pr_121, pr_122, pr_123, pr_124, pr_125, pr_126, pr_127, pr_128, pr_129, pr_130, pr_131, pr_132, pr_133, pr_134, pr_135, pr_136, pr_137, pr_138, pr_139, pr_140, pr_141, pr_142, pr_143, pr_144, pr_145, rf_0, rf_1, hI_1, rf_2, hI_2, rf_3, hI_3, rf_4, hI_4, rf_5, hI_5, rf_6, hI_6, rf_7, hI_7, rf_8, rf_9, rf_10, rf_11, hI_11, rf_12, rf_13, rf_14, rf_15, rf_16, hI_16, rf_17, rf_18, rf_19, rf_20, rf_21, rf_22, rf_23, hI_23, rf_24, rf_25, rf_26, rf_27, rf_28, hI_28, rf_29, rf_30, hI_30, rf_31, rf_32, hI_32, rf_33, hI_33, rf_34, rf_35, rf_36, rf_37, rf_38, rf_39, rf_40, rf_41, hI_41, rf_42, rf_43, rf_44, rf_45, rf_46, rf_47, rf_48, rf_49, rf_50, hI_50, rf_51, rf_52, rf_53, rf_54, rf_55, rf_56, rf_57, hI_57, rf_58, rf_59, rf_60, rf_61, rf_62, rf_63, rf_64, rf_65, rf_66, rf_67, rf_68, rf_69, rf_70, rf_71, rf_72, rf_73, rf_74, rf_75, hI_75, rf_76, rf_77, rf_78, hI_78, rf_79, rf_80, rf_81, hI_81, rf_82, hI_82, rf_83, rf_84, hI_84, rf_85, rf_86, rf_87, hI_87, rf_88, hI_88, rf_89, hI_89, rf_90, hI_90, rf_91, rf_92, rf_93, rf_94, hI_94, rf_95, hI_95, rf_96, rf_97, rf_98, rf_99, rf_100, hset_W, hA_74, hL_75, hA_76, hL_77, hA_78, hL_79, hA_80, hL_81, hA_82, hL_83, hA_84, hA_85, hA_86, hL_87, hA_88, hA_89, hA_90, hA_91, hA_92, hA_93, hA_94, hA_95, hA_96, hA_97, hA_98, hA_99, hA_100, hA_101, hA_102, hA_103, hA_104, hA_105, hL_106, hA_107, hA_108, hA_109, hA_110, hA_111, hA_112, hA_113, hA_114, hA_115, hA_116, hA_117, hA_118, hA_119, hA_120, hA_121, hA_122, hA_123, hA_124, hA_125, hA_126, hA_127, hA_128, hA_129, hA_130, hA_131, hA_132, hA_133, hA_134, hA_135, hA_136, hA_137, hA_138, hA_139, hA_140, hA_141, hA_142, hA_143, hA_144, hA_145, ni_ixL, ni_clL, ni_add, ni_mul, ni_lt, ni_le, ni_eq, ni_clamp, ni_ix, ni_lt0, ni_0le, ni_ltL, ni_Llt, ni_leL, ni_Lle, ni_eqL, ni_addL, ni_Ladd, ni_mulL, ni_Lmul, ni_subL, ni_sub, ni_Lsub, le_t, le_f, lt_t, lt_f, eq_f, il_lt, il_l0, il_g0, il_l1, il_g1, il_l2, il_g2, il_l3, il_g3, il_l4, il_g4, il_l5, il_g5, il_l7, il_g7, il_l8, il_g8, il_l9, il_g9, il_l10, il_g10, il_l15, il_g15, il_l20, il_g20, il_l23, il_g23, il_l24, il_g24, il_l60, il_g60, il_l100, il_g100, il_l999, il_g999, il_l1000, il_g1000, r_in, putR_lt hh, sA_1, sA_s, i1_0, bs_0, bs_1, im_lt, im_ge, im_eq, ni_em, y, z, hf]
theorem pz_b (hz : PZ K tb g rW x R N T A1 A2 B rb P h r f q c t w) : (146 ≤ R ∧ R + 12 < h.1 ∧ (h.2.2 R).1 = 2) ∧ BKc h R r P ∧ BKr r P := by
  obtain ⟨hx, hc, -, -, -, hb, hr, -⟩ := hz
  obtain ⟨-, ⟨h2, h3, -⟩, -⟩ := hx
  exact ⟨⟨h2, h3, by rw [hc]⟩, hb, hr⟩
/-- how a reader's method ends -/
def OU (K : Nat → pcell) (tb : Nat) (g : gS) (rW : rS) (x : xS) (R N : Nat) (T : Nat → Int32) (A1 A2 : Nat) (B : Nat → Value) (rb : rS) (P : pB) (q : Nat) (h' : pheap) (r' : rS) (o : Int32) : Prop := (o = 1 ∧ ∃ f' q' c' t' w', PZ K tb g rW x R N T A1 A2 B rb P h' r' f' q' c' t' w' ∧ q ≤ q') ∨ (o = 0 ∧ PQ K tb g rW x R N T A1 A2 rb h' r')
/-- the tokens alone -/
def PT (K : Nat → pcell) (tb : Nat) (g : gS) (rW : rS) (x : xS) (R N : Nat) (T : Nat → Int32) (A1 A2 : Nat) (B : Nat → Value) (h : pheap) (r : rS) (f q : Nat) (c t : Int32) (w : Int64) : Prop :=
  PX K tb g rW x R N T A1 A2 h ∧ h.2.2 R = (2, 9, rdC B R N 0 f q c w) ∧ (f ≤ q ∧ q ≤ N) ∧ ((r.1 1) = nI N ∧ (r.2.2.1 74) = T ∧ (r.1 5) = nI q ∧ (r.1 6) = nI f ∧ (r.1 7) = t ∧ (r.1 4) = 0 ∧ (r.1 3) = -1) ∧ (TRel c t r.2.1 ∧ (t = 2 → w = r.2.1))
theorem pt_next (hz : PT K tb g rW x R N T A1 A2 B h r f q c t w) : ∃ h' r' f' q' c' t' w', PT K tb g rW x R N T A1 A2 B h' r' f' q' c' t' w' ∧ q ≤ q' ∧ (c' ≠ 0 → q < q') ∧ ST h' h r' r R ∧ (∀ d r0 Q, Go (d + 3) 13 0 [.ref R] [] (putR r0 (putX x h)) Q = Q none (putR r0 (putX x h'))) ∧ (∀ d (H : pheap) Q, 146 ≤ H.1 → Go (d + 3) 175 0 [.ref 73, mk0, mk0] [] (putR r H) Q = Q none (putR r' H)) := by
  obtain ⟨hx, hc, ⟨hf, hq⟩, ⟨k1, k2, k3, k4, k5, k6, k7⟩, ⟨k8, k9⟩⟩ := hz
  have hx' := hx
  obtain ⟨h1, ⟨h2, h3, h4⟩, ⟨h5, h5'⟩, h6, h7⟩ := hx'
  have hid : hC h R (rdC B R N 0 f q c w) = h := by
    have : (h.2.2 R).2.2 = rdC B R N 0 f q c w := by rw [hc]
    rw [← this]
    exact hC_i
  obtain ⟨f', q', c', t', w1, w', ⟨y1, y2, y3⟩, y4, y5, y6, y7, y8⟩ := nx_ok (B := B) (fa := 0) (f0 := f) (c0 := c) (w0 := w) (x := x) h7 (h1.1.1.2.2.1 2 (by omega)) (sim_146 h1.1) ⟨h2, by omega, by rw [hc]⟩ h5' h5 hq k1 k2 k3
  rw [hid] at y7
  have hx2 := px_C (a := 0) hx (rdC B R N 0 f' q' c' w') (by omega)
  rw [Nat.add_zero] at hx2
  exact ⟨hC h R (rdC B R N 0 f' q' c' w'), nxR r f' q' t' w1, f', q', c', t', w', ⟨hx2, by rw [hC_s, hc], ⟨y2, y3⟩, ⟨k1, k2, rfl, rfl, rfl, k6, k7⟩, ⟨y5, y6⟩⟩, by omega, y4, ⟨fun a ha => hC_o _ ha, rfl, fun k q1 q2 q3 => nx_1 q1 q2 q3⟩, y7, y8⟩
theorem pz_pt (hz : PZ K tb g rW x R N T A1 A2 B rb P h r f q c t w) : PT K tb g rW x R N T A1 A2 B h r f q c t w := ⟨hz.1, hz.2.1, hz.2.2.1, hz.2.2.2.1, hz.2.2.2.2.1⟩
/-- a name is told -/
theorem pz_tell (hz : PZ K tb g rW x R N T A1 A2 B rb P h r f q c t w) (ha : al ≤ 100) (hm : mo ≤ 100) : (c = 2 ∧ al < mo ∧ w = r.2.1 ∧ (∀ d r0 Q, Go (d + 4) 18 0 [.ref R, .int (nI al), .int (nI mo)] [] (putR r0 (putX x h)) Q = Q (some (.int 1)) (putR r0 (putX x h))) ∧ (∀ r', (∀ d (H : pheap) Q, 146 ≤ H.1 → Go (d + 3) 175 0 [.ref 73, mk0, mk0] [] (putR r H) Q = Q none (putR r' H)) → (∀ d (H : pheap) Q, 146 ≤ H.1 → Go (d + 5) 184 0 [.ref 73, .int (if al < mo then 1 else 0), .int (toF r P r.2.1), mk0, mk0] [] (putR r H) Q = Q (some (.long r.2.1)) (putR r' H)))) ∨ (∃ h' r', PQ K tb g rW x R N T A1 A2 rb h' r' ∧ ¬ (r'.1 4) = 0 ∧ (∀ d r0 Q, Go (d + 4) 18 0 [.ref R, .int (nI al), .int (nI mo)] [] (putR r0 (putX x h)) Q = Q (some (.int 0)) (putR r0 (putX x h'))) ∧ (∀ d (H : pheap) Q, 146 ≤ H.1 → Go (d + 5) 184 0 [.ref 73, .int (if al < mo then 1 else 0), .int (toF r P r.2.1), mk0, mk0] [] (putR r H) Q = Q (some (.long r.2.1)) (putR r' H))) := by
  obtain ⟨hh, hR, h6, h7, h0⟩ := pz_R hz
  obtain ⟨t1, t2, t3, t4⟩ := pz_t hz
  obtain ⟨hR', hb, hr⟩ := pz_b hz
  have hr' := hr
  obtain ⟨⟨k1, k2, k3⟩, ⟨k4, k5⟩, ⟨k6, k7⟩, -⟩ := hr'
  have x1 := fun d r0 Q => x_told (d := d) (r0 := r0) (x := x) (Q := Q) hh hR' h6 h7 h0 hb k3 k5 k7 ha hm
  have heq : nmN c (if al < mo then 1 else 0) (toF r P w) = nmN c (if al < mo then 1 else 0) (toF r P r.2.1) := nm_eq (fun y => by
    rw [t4 ((tr_n t3).mp y).1])
  rw [heq] at x1
  by_cases z : nmN c (if al < mo then 1 else 0) (toF r P r.2.1) = 0
  · replace x1 := fun d r0 Q => (x1 d r0 Q).trans (if_pos z)
    have c2 : c = 2 := Classical.byContradiction fun y => by
      by_cases c1 : c = 1
      · rw [nm_1 c1] at z; exact absurd z (by decide)
      · rw [nm_2 c1 y] at z; exact absurd z (by decide)
    have l : al < mo := Classical.byContradiction fun y => by
      rw [nm_3 c2 (if_neg y)] at z
      exact absurd z (by decide)
    exact Or.inl ⟨c2, l, t4 ((tr_n t3).mp c2).1, x1, fun r' y6 d H Q hH => (r_name hH t1 t2 t3).1 z (fun Q => y6 (d + 1) H Q hH)⟩
  · replace x1 := fun d r0 Q => (x1 d r0 Q).trans (if_neg z)
    refine Or.inr ⟨_, fqR r (nI (nmN c (if al < mo then 1 else 0) (toF r P r.2.1))), pz_bad hz (by omega) nm_le, ?_, x1, fun d H Q hH => (r_name (r' := r) hH t1 t2 t3).2 z⟩
    have := nm_le (c := c) (rm := if al < mo then 1 else 0) (tl := toF r P r.2.1)
    intro y
    have y' : nI (nmN c (if al < mo then 1 else 0) (toF r P r.2.1)) = nI 0 := y
    rw [ni_eq (by omega) (by omega)] at y'
    exact z y'
end
