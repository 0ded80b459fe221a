section
variable {K : Nat → pcell} {tb : Nat} {g g' g0 g1 : gS} {r r' r0 : rS} {x x' x1 : xS} {h h' h1 : pheap} {d : Nat} {Q : Option Value → pheap → Prop} {a n : Nat}
theorem inv_g (e1 : g1.1 = g.1) (e2 : g1.2.2.2.2 = g.2.2.2.2) (hi : Inv tb g r ∧ Msg tb g r) : Inv tb g1 r ∧ Msg tb g1 r := by
  obtain ⟨L, va, ar, ro, rest⟩ := g1
  have e1' : L = g.1 := e1
  have e2' : rest = g.2.2.2.2 := e2
  subst e1' e2'
  exact hi
theorem ref_lt {x2 : Nat → Nat} {b : Nat} {c : Nat × Nat} (hr : Ref0 g x2 b c) : (9 ≤ c.1 → c.1 ≤ 12 → c.2 < (g.1 0 3)) ∧ (c.1 = 13 → c.2 < (g.1 0 4)) ∧ (c.1 = 14 → c.2 < (g.1 0 5)) ∧ (5 ≤ c.1 → c.1 ≤ 6 → c.2 < (g.1 0 1)) ∧ (7 ≤ c.1 → c.1 ≤ 8 → c.2 < (g.1 0 2)) ∧ (15 ≤ c.1 → c.1 ≤ 17 → c.2 < 120 ∧ (g.2.2.2.2.2 23) c.2 ≠ 0) := by
  rcases hr with ⟨i, hi, (⟨-, rfl⟩ | ⟨-, rfl⟩ | ⟨-, rfl⟩ | ⟨-, rfl⟩)⟩ | ⟨i, hi, -, rfl⟩ | ⟨i, hi, (⟨-, rfl⟩ | ⟨-, rfl⟩ | ⟨k, -, -, rfl⟩)⟩ | ⟨i, hi, (⟨-, rfl⟩ | ⟨-, rfl⟩)⟩ | ⟨k, -, -, rfl⟩ | ⟨i, hi, (⟨-, rfl⟩ | ⟨-, -, rfl⟩ | ⟨-, -, rfl⟩ | ⟨-, -, rfl⟩ | ⟨-, -, rfl⟩)⟩ | ⟨k, hi, hj, (⟨-, rfl⟩ | ⟨-, rfl⟩ | ⟨-, rfl⟩)⟩ | ⟨q, -, -, -, -, rfl⟩ | ⟨j, -, -, -, rfl⟩
  all_goals
    refine ⟨fun u v => ?_, fun u => ?_, fun u => ?_, fun u v => ?_, fun u v => ?_, fun u v => ?_⟩
    all_goals first
      | exact hi
      | exact ⟨hi, hj⟩
      | (exfalso; dsimp only at *; omega)
def rfs (r : rS) (n : Nat) : rS := sR r 95 (wrF ((r.2.2.1 95)) (fun _ => -1) (24 * n) 24)
def dskG (g : gS) (n a : Nat) : gS := gR (gR (gR (gR (gL (gL g 0 3 (n + 1)) 4 n a) a (9, n)) (a + 1) (10, n)) (a + 2) (11, n)) (a + 3) (12, n)
theorem dskG_ro {b : Nat} (hb : ¬ (a ≤ b ∧ b < a + 4)) : (dskG g n a).2.2.2.1 b = g.2.2.2.1 b := by
  unfold dskG
  rw [gR_n _ _ (by omega), gR_n _ _ (by omega), gR_n _ _ (by omega), gR_n _ _ (by omega)]
  rfl
theorem dskG_r {j : Nat} (hj : j < 4) : (dskG g n a).2.2.2.1 (a + j) = (9 + j, n) := by
  unfold dskG
  rcases j with _ | _ | _ | _ | j
  · rw [gR_n _ _ (by omega), gR_n _ _ (by omega), gR_n _ _ (by omega)]
    exact gR_s _ _ _
  · rw [gR_n _ _ (by omega), gR_n _ _ (by omega), gR_s]
  · rw [gR_n _ _ (by omega), gR_s]
  · rw [gR_s]
  · omega
theorem l_deskR (hh : 146 ≤ h.1) (hn : (r.1 33) = nI n) (hn8 : n < 8) {f : Nat → Int32} : ∀ m k, k + m = 24 → Go (d + 1) 209 14 [.ref 73, .int (nI k)] [] (putR (sR r 95 (wrF f (fun _ => -1) (24 * n) k)) h) Q = Q (some (.int (nI n))) (putR (sI (sR r 95 (wrF f (fun _ => -1) (24 * n) 24)) 33 (nI (n + 1))) h)
  | 0, k, hk => by
    have : k = 24 := by omega
    subst this
    simp (disch := first | exact c1_i _ | exact c1_r _ | exact c1_n | exact c1_m | omega | assumption | (apply ac_l; omega) | (apply ac_r; omega) | decide | exact Or.inl rfl) only [e_209_14, e_209_15, e_209_17, e_209_41, e_209_41n, e_209_42, e_209_43, e_209_46, e_209_47, e_209_48, e_209_51, e_209_51n, e_209_52, e_209_55, e_209_56, e_209_57, Option.toList_some, Option.toList_none, List.cons_append, List.nil_append, catS_cons, catS_nil, cat_int, cat_long, cat_ref, cat_null, c1_i, c1_r, c1_n, c1_m, true_and, and_true, and_self, putR_1, putR_u, eq_self, Nat.reduceLT, Nat.reduceLeDiff, Nat.reduceAdd, Nat.reduceEqDiff, vk_i, vk_l, vk_r, vk_n, vk_0, vk_1, if_true, if_false, not_true_eq_false, not_false_eq_true, false_and, and_false, ne_eq, true_or, or_true, ite_not, reduceCtorEq, pr_73, pr_74, pr_75, pr_76, pr_77, pr_78, pr_79, pr_80, pr_81, pr_82, pr_83, pr_84, pr_85, pr_86, pr_87, pr_88, pr_89, pr_90, pr_91, pr_92, pr_93, pr_94, pr_95, pr_96, pr_97, pr_98, pr_99, pr_100, pr_101, pr_102, pr_103, pr_104, pr_105, pr_106, pr_107, pr_108, pr_109, pr_110, pr_111, pr_112, pr_113, pr_114, pr_115, pr_116, pr_117, pr_118, pr_119, pr_120, pr_121, pr_122, pr_123, pr_124, pr_125, pr_126, pr_127, pr_128, pr_129, pr_130, pr_131, pr_132, pr_133, pr_134, pr_135, pr_136, pr_137, pr_138, pr_139, pr_140, pr_141, pr_142, pr_143, pr_144, pr_145, rf_0, rf_1, hI_1, rf_2, hI_2, rf_3, hI_3, rf_4, hI_4, rf_5, hI_5, rf_6, hI_6, rf_7, hI_7, rf_8, rf_9, rf_10, rf_11, hI_11, rf_12, rf_13, rf_14, rf_15, rf_16, hI_16, rf_17, rf_18, rf_19, rf_20, rf_21, rf_22, rf_23, hI_23, rf_24, rf_25, rf_26, rf_27, rf_28, hI_28, rf_29, rf_30, hI_30, rf_31, rf_32, hI_32, rf_33, hI_33, rf_34, rf_35, rf_36, rf_37, rf_38, rf_39, rf_40, rf_41, hI_41, rf_42, rf_43, rf_44, rf_45, rf_46, rf_47, rf_48, rf_49, rf_50, hI_50, rf_51, rf_52, rf_53, rf_54, rf_55, rf_56, rf_57, hI_57, rf_58, rf_59, rf_60, rf_61, rf_62, rf_63, rf_64, rf_65, rf_66, rf_67, rf_68, rf_69, rf_70, rf_71, rf_72, rf_73, rf_74, rf_75, hI_75, rf_76, rf_77, rf_78, hI_78, rf_79, rf_80, rf_81, hI_81, rf_82, hI_82, rf_83, rf_84, hI_84, rf_85, rf_86, rf_87, hI_87, rf_88, hI_88, rf_89, hI_89, rf_90, hI_90, rf_91, rf_92, rf_93, rf_94, hI_94, rf_95, hI_95, rf_96, rf_97, rf_98, rf_99, rf_100, hset_W, hA_74, hL_75, hA_76, hL_77, hA_78, hL_79, hA_80, hL_81, hA_82, hL_83, hA_84, hA_85, hA_86, hL_87, hA_88, hA_89, hA_90, hA_91, hA_92, hA_93, hA_94, hA_95, hA_96, hA_97, hA_98, hA_99, hA_100, hA_101, hA_102, hA_103, hA_104, hA_105, hL_106, hA_107, hA_108, hA_109, hA_110, hA_111, hA_112, hA_113, hA_114, hA_115, hA_116, hA_117, hA_118, hA_119, hA_120, hA_121, hA_122, hA_123, hA_124, hA_125, hA_126, hA_127, hA_128, hA_129, hA_130, hA_131, hA_132, hA_133, hA_134, hA_135, hA_136, hA_137, hA_138, hA_139, hA_140, hA_141, hA_142, hA_143, hA_144, hA_145, ni_ixL, ni_clL, ni_add, ni_mul, ni_lt, ni_le, ni_eq, ni_clamp, ni_ix, ni_lt0, ni_0le, ni_ltL, ni_Llt, ni_leL, ni_Lle, ni_eqL, ni_addL, ni_Ladd, ni_mulL, ni_Lmul, ni_subL, ni_sub, ni_Lsub, le_t, le_f, lt_t, lt_f, eq_f, il_lt, il_l0, il_g0, il_l1, il_g1, il_l2, il_g2, il_l3, il_g3, il_l4, il_g4, il_l5, il_g5, il_l7, il_g7, il_l8, il_g8, il_l9, il_g9, il_l10, il_g10, il_l15, il_g15, il_l20, il_g20, il_l23, il_g23, il_l24, il_g24, il_l60, il_g60, il_l100, il_g100, il_l999, il_g999, il_l1000, il_g1000, r_in, putR_lt hh, sA_1, sA_s, i1_0, bs_0, bs_1, im_lt, im_ge, im_eq, ni_em, sR_1, hn, sI_s, Nat.add_sub_cancel]
  | m + 1, k, hk => by
    rw [← l_deskR hh hn hn8 m (k + 1) (by omega), e_209_14]
    have e := wrF_u f (fun _ => -1) (24 * n) k
    simp (disch := first | exact c1_i _ | exact c1_r _ | exact c1_n | exact c1_m | omega | assumption | (apply ac_l; omega) | (apply ac_r; omega) | decide | exact Or.inl rfl) only [e_209_15, e_209_17, e_209_20, e_209_20n, e_209_21, e_209_24, e_209_26, e_209_26n, e_209_27, e_209_30, e_209_31, e_209_32, e_209_33, e_209_34, e_209_35, e_209_38, Option.toList_some, Option.toList_none, List.cons_append, List.nil_append, catS_cons, catS_nil, cat_int, cat_long, cat_ref, cat_null, c1_i, c1_r, c1_n, c1_m, true_and, and_true, and_self, putR_1, putR_u, eq_self, Nat.reduceLT, Nat.reduceLeDiff, Nat.reduceAdd, Nat.reduceEqDiff, vk_i, vk_l, vk_r, vk_n, vk_0, vk_1, if_true, if_false, not_true_eq_false, not_false_eq_true, false_and, and_false, ne_eq, true_or, or_true, ite_not, reduceCtorEq, pr_73, pr_74, pr_75, pr_76, pr_77, pr_78, pr_79, pr_80, pr_81, pr_82, pr_83, pr_84, pr_85, pr_86, pr_87, pr_88, pr_89, pr_90, pr_91, pr_92, pr_93, pr_94, pr_95, pr_96, pr_97, pr_98, pr_99, pr_100, pr_101, pr_102, pr_103, pr_104, pr_105, pr_106, pr_107, pr_108, pr_109, pr_110, pr_111, pr_112, pr_113, pr_114, pr_115, pr_116, pr_117, pr_118, pr_119, pr_120, pr_121, pr_122, pr_123, pr_124, pr_125, pr_126, pr_127, pr_128, pr_129, pr_130, pr_131, pr_132, pr_133, pr_134, pr_135, pr_136, pr_137, pr_138, pr_139, pr_140, pr_141, pr_142, pr_143, pr_144, pr_145, rf_0, rf_1, hI_1, rf_2, hI_2, rf_3, hI_3, rf_4, hI_4, rf_5, hI_5, rf_6, hI_6, rf_7, hI_7, rf_8, rf_9, rf_10, rf_11, hI_11, rf_12, rf_13, rf_14, rf_15, rf_16, hI_16, rf_17, rf_18, rf_19, rf_20, rf_21, rf_22, rf_23, hI_23, rf_24, rf_25, rf_26, rf_27, rf_28, hI_28, rf_29, rf_30, hI_30, rf_31, rf_32, hI_32, rf_33, hI_33, rf_34, rf_35, rf_36, rf_37, rf_38, rf_39, rf_40, rf_41, hI_41, rf_42, rf_43, rf_44, rf_45, rf_46, rf_47, rf_48, rf_49, rf_50, hI_50, rf_51, rf_52, rf_53, rf_54, rf_55, rf_56, rf_57, hI_57, rf_58, rf_59, rf_60, rf_61, rf_62, rf_63, rf_64, rf_65, rf_66, rf_67, rf_68, rf_69, rf_70, rf_71, rf_72, rf_73, rf_74, rf_75, hI_75, rf_76, rf_77, rf_78, hI_78, rf_79, rf_80, rf_81, hI_81, rf_82, hI_82, rf_83, rf_84, hI_84, rf_85, rf_86, rf_87, hI_87, rf_88, hI_88, rf_89, hI_89, rf_90, hI_90, rf_91, rf_92, rf_93, rf_94, hI_94, rf_95, hI_95, rf_96, rf_97, rf_98, rf_99, rf_100, hset_W, hA_74, hL_75, hA_76, hL_77, hA_78, hL_79, hA_80, hL_81, hA_82, hL_83, hA_84, hA_85, hA_86, hL_87, hA_88, hA_89, hA_90, hA_91, hA_92, hA_93, hA_94, hA_95, hA_96, hA_97, hA_98, hA_99, hA_100, hA_101, hA_102, hA_103, hA_104, hA_105, hL_106, hA_107, hA_108, hA_109, hA_110, hA_111, hA_112, hA_113, hA_114, hA_115, hA_116, hA_117, hA_118, hA_119, hA_120, hA_121, hA_122, hA_123, hA_124, hA_125, hA_126, hA_127, hA_128, hA_129, hA_130, hA_131, hA_132, hA_133, hA_134, hA_135, hA_136, hA_137, hA_138, hA_139, hA_140, hA_141, hA_142, hA_143, hA_144, hA_145, ni_ixL, ni_clL, ni_add, ni_mul, ni_lt, ni_le, ni_eq, ni_clamp, ni_ix, ni_lt0, ni_0le, ni_ltL, ni_Llt, ni_leL, ni_Lle, ni_eqL, ni_addL, ni_Ladd, ni_mulL, ni_Lmul, ni_subL, ni_sub, ni_Lsub, le_t, le_f, lt_t, lt_f, eq_f, il_lt, il_l0, il_g0, il_l1, il_g1, il_l2, il_g2, il_l3, il_g3, il_l4, il_g4, il_l5, il_g5, il_l7, il_g7, il_l8, il_g8, il_l9, il_g9, il_l10, il_g10, il_l15, il_g15, il_l20, il_g20, il_l23, il_g23, il_l24, il_g24, il_l60, il_g60, il_l100, il_g100, il_l999, il_g999, il_l1000, il_g1000, r_in, putR_lt hh, sA_1, sA_s, i1_0, bs_0, bs_1, im_lt, im_ge, im_eq, ni_em, sR_1, hn, sA_R, e]
theorem w_desk (hw : World K tb g r x h) (hn : n = (g.1 0 3)) (hn8 : n < 8) (he : 146 ≤ x.2 4) (hcap : n < (h.2.2 (x.2 4)).2.1) (ha : 146 ≤ a) (ha2 : a + 3 < h.1) (hro : ∀ b, a ≤ b → b < a + 4 → g.2.2.2.1 b = (0, 0)) (c1 : cDsk a n 0 0 0 0 (h.2.2 a)) (c2 : cInts 20 24 (fun _ => -1) (h.2.2 (a + 1))) (c3 : cInts 23 9 (fun _ => 0) (h.2.2 (a + 2))) (c4 : cInts 20 4 (fun _ => 0) (h.2.2 (a + 3))) : World K tb (dskG g n a) (sI (rfs r n) 33 (nI (n + 1))) (tI x 22 2 (nI (n + 1))) (hset h (x.2 4) n (.ref a)) := by
  obtain ⟨hs, hi, hm⟩ := hw
  have hiD := hi.2.2.2.1
  have hiO := hi.2.2.2.2.1
  have hiC := hi.2.2.2.2.2.2.2.2.1
  have hS := hs
  obtain ⟨hs0, pf, hC, bk, vr, kp, ft, fl, fw, fx⟩ := hs
  have hlow : ∀ i, i ≠ n → (dskG g n a).1 4 i = (g.1 4) i := fun i hi => upN_n _ _ hi
  have hrn : (dskG g n a).1 4 n = a := upN_s _ _ _
  have hrf : ∀ i k, k < 24 → i ≠ n → (rfs r n).2.2.1 95 (24 * i + k) = (r.2.2.1 95) (24 * i + k) := fun i k hk hi => by
    unfold rfs
    rw [sR_s, wrF_o _ _ (by omega)]
  have hrf2 : ∀ k, k < 24 → (rfs r n).2.2.1 95 (24 * n + k) = -1 := fun k hk => by
    unfold rfs
    rw [sR_s, wrF_i _ _ hk]
  obtain ⟨z1, z2, z3, z4, z5, z6⟩ := (hiD n (by omega)).1 (by omega)
  refine ⟨sim_link (g' := dskG g n a) (r' := sI (rfs r n) 33 (nI (n + 1))) hS (fun b => a ≤ b ∧ b < a + 4) (q := 4) (by decide) (by decide) he hn hcap rfl (fun k hk => upN_n _ _ hk) rfl (fun b b1 b2 => ?_) (fun b => rfl) (fun b hb => ⟨hro b hb.1 hb.2, by omega, by omega⟩) (fun b hb => dskG_ro hb) (fun b hb => ?_) (fun p c hp => ?_) (fun b hb hr => ?_) (fun b c hb h4 b1 b2 hc => ?_) (fun b hb => ?_) bk vr kp ft fw fx, ⟨?_, hi.2.1, hi.2.2.1, ?_, ?_, hi.2.2.2.2.2.1, hi.2.2.2.2.2.2.1, hi.2.2.2.2.2.2.2.1, ?_, hi.2.2.2.2.2.2.2.2.2⟩, hm⟩
  · show upN (upN g.1 0 _) 4 _ b = _
    rw [upN_n _ _ b2, upN_n _ _ (by omega)]
  · obtain ⟨j, rfl⟩ : ∃ j, b = a + j := ⟨b - a, by omega⟩
    rw [dskG_r (by omega)]
    show 4 < 9 + j
    omega
  · rcases hp with ⟨i, hi', hl⟩ | hp
    · by_cases e : i = n
      · subst e
        rw [hrn] at hl
        rcases hl with ⟨rfl, rfl⟩ | ⟨rfl, rfl⟩ | ⟨rfl, rfl⟩ | ⟨rfl, rfl⟩
        · exact Or.inr ⟨by omega, dskG_r (j := 0) (by omega)⟩
        · exact Or.inr ⟨by omega, dskG_r (j := 1) (by omega)⟩
        · exact Or.inr ⟨by omega, dskG_r (j := 2) (by omega)⟩
        · exact Or.inr ⟨by omega, dskG_r (j := 3) (by omega)⟩
      · rw [hlow i e] at hl
        have hi2 : i < n + 1 := hi'
        have hr : Ref0 g x.2 p c := Or.inl ⟨i, by omega, hl⟩
        exact Or.inl ⟨pf.1 p c hr, ref_c0 hr⟩
    · have hr : Ref0 g x.2 p c := Or.inr hp
      exact Or.inl ⟨pf.1 p c hr, ref_c0 hr⟩
  · by_cases hnb : a ≤ b ∧ b < a + 4
    · obtain ⟨j, rfl⟩ : ∃ j, b = a + j := ⟨b - a, by omega⟩
      have hj : j < 4 := by omega
      rw [dskG_r hj]
      refine Or.inl ⟨n, (Nat.lt_succ_self n : n < n + 1), ?_⟩
      rw [hrn]
      rcases j with _ | _ | _ | _ | j
      · exact Or.inl ⟨rfl, rfl⟩
      · exact Or.inr (Or.inl ⟨rfl, rfl⟩)
      · exact Or.inr (Or.inr (Or.inl ⟨rfl, rfl⟩))
      · exact Or.inr (Or.inr (Or.inr ⟨rfl, rfl⟩))
      · omega
    · rw [dskG_ro hnb]
      rcases hr with hr | hr
      · exact absurd hr hnb
      · rcases hr with ⟨i, hi', hl⟩ | hr
        · refine Or.inl ⟨i, (Nat.lt_succ_of_lt (hn ▸ hi') : i < n + 1), ?_⟩
          rw [hlow i (by omega)]
          exact hl
        · exact Or.inr hr
  · have hlt := fun z => ref_lt (pf.2.2 b z)
    have e := dskG_ro (g := g) (n := n) hb
    unfold Cell at hc ⊢
    rw [e]
    obtain ⟨c1, c2, c3, c4, c5, c6, c7, c8, c9, c10, c11, c12, c13, c14, c15, c16, c17, c18⟩ := hc
    refine ⟨c1, c2, c3, fun z => absurd z h4, c5, c6, c7, c8, c9, fun z => ?_, c11, c12, fun z => ?_, fun z => ?_, c15, c16, c17, c18⟩
    · have := (hlt (by omega)).1 (by omega) (by omega)
      refine cInts_c (fun k hk => ?_) (c10 z)
      exact hrf _ k hk (by omega)
    · have ho := (hlt (by omega)).2.1 z
      obtain ⟨-, u2, -⟩ := hiO _ ho
      have u3 : (g.2.2.2.2.2 12) (g.2.2.2.1 b).2 ≠ n := by omega
      have := c13 z
      rw [← hlow _ u3] at this
      exact this
    · have ho := (hlt (by omega)).2.2.1 z
      obtain ⟨-, u2, -, u4, -⟩ := hiC _ ho
      have u5 : (g.2.2.2.2.2 14) (g.2.2.2.1 b).2 ≠ n := by omega
      have u6 : (g.2.2.2.2.2 15) (g.2.2.2.1 b).2 ≠ n := by omega
      have := c14 z
      rw [← hlow _ u5, ← hlow _ u6] at this
      exact this
  · obtain ⟨j, rfl⟩ : ∃ j, b = a + j := ⟨b - a, by omega⟩
    have hj : j < 4 := by omega
    have e := dskG_r (g := g) (n := n) (a := a) hj
    rcases j with _ | _ | _ | _ | j
    · refine cell_9 (by rw [e]) ?_
      rw [e]
      show cDsk a n ((r.2.2.1 93) n) ((r.2.2.1 97) n) ((r.2.2.1 98) n) ((r.2.2.1 99) n) (h.2.2 a)
      rw [z1, z2, z3, z4]
      exact c1
    · refine cell_10 (by rw [e]) ?_
      rw [e]
      exact cInts_c (fun k hk => hrf2 k hk) c2
    · refine cell_11 (by rw [e]) ?_
      rw [e]
      refine cInts_c (fun k hk => ?_) c3
      show (if (r.2.2.1 94) (9 * n + k) = 0 then (1 : Int32) else 0) = 0
      rw [z6 k hk]
      rfl
    · refine cell_12 (by rw [e]) ?_
      rw [e]
      exact cInts_c (fun k hk => z5 k hk) c4
    · omega
  · obtain ⟨n1, n2, n3, n4, n5, n6, n7⟩ := hi.1
    exact ⟨n1, n2, n3, n4, n5, ⟨rfl, (by omega : n + 1 ≤ 8)⟩, n7⟩
  · intro i hi8
    obtain ⟨a1, a2, a3, a4, a5, a6⟩ := hiD i hi8
    refine ⟨fun z => a1 (by have z' : n + 1 ≤ i := z; omega), a2, a3, a4, a5, fun z o ho => ?_⟩
    have z' : i < n + 1 := z
    show ((rfs r n).2.2.1 95 (24 * i + o) = -1 ∨ ∃ a b, a ≤ b ∧ b ≤ 200 ∧ (rfs r n).2.2.1 95 (24 * i + o) = nI a ∧ (r.2.2.1 93) ((g.2.2.2.2.2 12) o) = nI b) ∧ (_ → (rfs r n).2.2.1 95 (24 * i + o) = -1)
    by_cases e : i = n
    · subst e
      rw [hrf2 o ho]
      exact ⟨Or.inl rfl, fun _ => rfl⟩
    · rw [hrf i o ho e]
      exact a6 (by omega) o ho
  · intro o ho
    obtain ⟨u1, u2, u3⟩ := hiO o ho
    exact ⟨u1, (by have : (g.2.2.2.2.2 12) o < n := (hn ▸ u2); show (g.2.2.2.2.2 12) o < n + 1; omega), u3⟩
  · intro c hc
    obtain ⟨u1, u2, u3, u4, u5⟩ := hiC c hc
    exact ⟨u1, (by show (g.2.2.2.2.2 14) c < n + 1; omega), u3, (by show (g.2.2.2.2.2 15) c < n + 1; omega), u5⟩
theorem w_grw (hw : World K tb g r x h) {h0 : pheap} {x0 : xS} {q : Nat} (hg : Grw K g r x0 h0 q g1 x1 h1) : World K tb g1 r x1 h1 := ⟨hg.1, inv_g hg.2.1 hg.2.2.2.2.1 hw.2⟩
theorem t_desk (hw : World K tb g r x h) : Same K tb r x h 66 [.ref 5] 209 [.ref 73, mk0] := by
  have hh := sim_146 hw.1
  obtain ⟨c1, c2, c3⟩ := w_nd hw
  by_cases hn : (g.1 0 3) < 8
  · obtain ⟨m1, m2, m3, m4, m5, m6, m7, m8⟩ := mkD_ok (n := (g.1 0 3)) hw.1 (by omega)
    obtain ⟨g1, x1, h2, hg, hrun⟩ := add_desk m1 (a := h.1) (by omega) hh (by rw [m2]; omega) (by rw [m4.1]; decide) (by rw [m4.1]; decide)
    have hw1 := w_grw hw hg
    obtain ⟨-, g2, g3, g4, g5, g6, g7, g8, g9, g10, g11, g12, g13, g14⟩ := hg
    have hw2 := w_scr hw1 (a := 22) (k := 0) (Or.inr (Or.inr (Or.inr ⟨by omega, by omega, rfl⟩))) (x.1 22 0 + 1)
    have hnd : (g1.1 0 3) = (g.1 0 3) := by rw [g2]
    have hw3 := w_desk (a := h.1) (n := (g.1 0 3)) hw2 hnd.symm hn g9 g10 hh (by rw [m2] at g12; omega) (fun b b1 b2 => by
      rw [m2] at g6
      have t := sim_top hw.1 b1
      rw [g6 b (by omega) (by rw [t]; exact fun z => by cases z)]
      exact t) (by rw [g11 _ (by rw [m2]; omega)]; exact m4) (by rw [g11 _ (by rw [m2]; omega)]; exact m5) (by rw [g11 _ (by rw [m2]; omega)]; exact m6) (by rw [g11 _ (by rw [m2]; omega)]; exact m7)
    refine same_of (v := some (.int (nI (g.1 0 3)))) (w_up hw3) (fun d Q => ?_) (fun d h Q hh => ?_) (by rw [hs_1]; omega) (by rw [hs_u]; omega)
    · have hsz := fun d Q => x_newDesk (d := d) (r0 := r) (x := x) (Q := Q) (h := h) (n := (g.1 0 3)) hh (by omega)
      have hr2 := fun d Q => hrun d r Q
      simp (disch := first | exact c1_i _ | exact c1_r _ | exact c1_n | exact c1_m | omega | assumption | (simp only [hn_1, hs_1, hC_1]; omega) | (apply ac_l; omega) | (apply ac_r; omega) | decide | exact Or.inl rfl) only [e_66_0, e_66_0n, e_66_1, e_66_4, e_66_7, e_66_9, e_66_12, e_66_14, e_66_15, e_66_15n, e_66_16, e_66_19, e_66_22, e_66_23, e_66_23n, e_66_24, e_66_27, e_66_30, e_66_33, e_66_36, e_66_37, e_66_37n, e_66_38, e_66_41, e_66_44, e_66_45, e_66_46, e_36_0, e_36_0n, e_36_1, e_36_4, Option.toList_some, Option.toList_none, List.cons_append, List.nil_append, catS_cons, catS_nil, cat_int, cat_long, cat_ref, cat_null, c1_i, c1_r, c1_n, c1_m, true_and, and_true, and_self, putR_1, putR_u, eq_self, Nat.reduceLT, Nat.reduceLeDiff, Nat.reduceAdd, Nat.reduceEqDiff, vk_i, vk_l, vk_r, vk_n, vk_0, vk_1, if_true, if_false, not_true_eq_false, not_false_eq_true, false_and, and_false, ne_eq, true_or, or_true, ite_not, reduceCtorEq, putX_1, putX_u, putX_hi, hset_Xhi, px_5, xf_5_0, xf_5_1, xI_5_1, xf_5_2, xR_0, xf_5_3, xI_5_3, xf_5_4, xI_5_4, xf_5_5, xf_5_6, xI_5_6, xf_5_7, xf_5_8, xf_5_9, xf_5_10, xf_5_11, xf_5_12, xf_5_13, xf_5_14, xf_5_15, xI_5_15, px_6, xA_6, px_18, xA_18, px_19, xf_19_0, xI_19_0, xf_19_1, xR_1, xf_19_2, xI_19_2, px_20, xf_20_0, xI_20_0, xf_20_1, xR_2, xf_20_2, xI_20_2, px_21, xf_21_0, xI_21_0, xf_21_1, xR_3, xf_21_2, xI_21_2, px_22, xf_22_0, xI_22_0, xf_22_1, xR_4, xf_22_2, xI_22_2, px_23, xf_23_0, xI_23_0, xf_23_1, xR_5, xf_23_2, xI_23_2, px_24, xf_24_0, xI_24_0, xf_24_1, xR_6, xf_24_2, xI_24_2, px_25, xf_25_0, xI_25_0, xf_25_1, xI_25_1, xf_25_2, xf_25_3, xI_25_3, xf_25_4, xf_25_5, xf_25_6, px_26, xA_26, px_27, px_28, xA_28, px_29, xA_29, px_30, xA_30, px_31, xA_31, px_32, xA_32, px_33, xA_33, px_34, xA_34, px_35, xA_35, px_36, xA_36, px_37, xA_37, px_38, xA_38, px_39, xA_39, px_40, xA_40, px_41, xA_41, px_42, xA_42, px_43, xA_43, px_44, xA_44, px_45, xA_45, px_46, xA_46, px_47, xA_47, px_48, xA_48, px_49, xA_49, px_50, xA_50, px_51, xA_51, px_52, xA_52, px_53, xA_53, px_54, xA_54, px_55, xA_55, px_56, xA_56, px_57, xA_57, px_58, xA_58, px_59, xA_59, px_60, xA_60, px_61, xA_61, px_62, xA_62, px_63, xA_63, px_64, xA_64, px_65, xA_65, px_66, xA_66, px_67, xA_67, px_68, xA_68, px_69, xA_69, px_70, xf_70_0, xI_70_0, xf_70_1, xI_70_1, xf_70_2, xI_70_2, xf_70_3, xf_70_4, px_71, xA_71, px_72, xA_72, ni_ixL, ni_clL, ni_add, ni_mul, ni_lt, ni_le, ni_eq, ni_clamp, ni_ix, ni_lt0, ni_0le, ni_ltL, ni_Llt, ni_leL, ni_Lle, ni_eqL, ni_addL, ni_Ladd, ni_mulL, ni_Lmul, ni_subL, ni_sub, ni_Lsub, le_t, le_f, lt_t, lt_f, eq_f, il_lt, il_l0, il_g0, il_l1, il_g1, il_l2, il_g2, il_l3, il_g3, il_l4, il_g4, il_l5, il_g5, il_l7, il_g7, il_l8, il_g8, il_l9, il_g9, il_l10, il_g10, il_l15, il_g15, il_l20, il_g20, il_l23, il_g23, il_l24, il_g24, il_l60, il_g60, il_l100, il_g100, il_l999, il_g999, il_l1000, il_g1000, putR_lo, hset_lo, putR_lt hh, rd_hi, wr_hi, hs_1, hs_s, hs_o, uv_s, uv_o, pv_0, pv_n, i1_0, bs_0, bs_1, im_lt, im_ge, im_eq, ni_em, nw_hi, hn_1, hn_s, hn_o, ni_Ll0, c3, hsz, hr2, tI_s]
      rw [Nat.add_sub_cancel]
      rfl
    · have e := l_deskR (d := d + 99) (Q := Q) (r := r) (f := (r.2.2.1 95)) hh c1 hn 24 0 rfl
      rw [wrF_0, sR_i] at e
      simp (disch := first | exact c1_i _ | exact c1_r _ | exact c1_n | exact c1_m | omega | assumption | (apply ac_l; omega) | (apply ac_r; omega) | decide | exact Or.inl rfl) only [e_209_0, e_209_0n, e_209_1, e_209_4, e_209_6, e_209_9, e_209_11, e_209_12, e_209_13, Option.toList_some, Option.toList_none, List.cons_append, List.nil_append, catS_cons, catS_nil, cat_int, cat_long, cat_ref, cat_null, c1_i, c1_r, c1_n, c1_m, true_and, and_true, and_self, putR_1, putR_u, eq_self, Nat.reduceLT, Nat.reduceLeDiff, Nat.reduceAdd, Nat.reduceEqDiff, vk_i, vk_l, vk_r, vk_n, vk_0, vk_1, if_true, if_false, not_true_eq_false, not_false_eq_true, false_and, and_false, ne_eq, true_or, or_true, ite_not, reduceCtorEq, pr_73, pr_74, pr_75, pr_76, pr_77, pr_78, pr_79, pr_80, pr_81, pr_82, pr_83, pr_84, pr_85, pr_86, pr_87, pr_88, pr_89, pr_90, pr_91, pr_92, pr_93, pr_94, pr_95, pr_96, pr_97, pr_98, pr_99, pr_100, pr_101, pr_102, pr_103, pr_104, pr_105, pr_106, pr_107, pr_108, pr_109, pr_110, pr_111, pr_112, pr_113, pr_114, pr_115, pr_116, pr_117, pr_118, pr_119, pr_120, pr_121, pr_122, pr_123, pr_124, pr_125, pr_126, pr_127, pr_128, pr_129, pr_130, pr_131, pr_132, pr_133, pr_134, pr_135, pr_136, pr_137, pr_138, pr_139, pr_140, pr_141, pr_142, pr_143, pr_144, pr_145, rf_0, rf_1, hI_1, rf_2, hI_2, rf_3, hI_3, rf_4, hI_4, rf_5, hI_5, rf_6, hI_6, rf_7, hI_7, rf_8, rf_9, rf_10, rf_11, hI_11, rf_12, rf_13, rf_14, rf_15, rf_16, hI_16, rf_17, rf_18, rf_19, rf_20, rf_21, rf_22, rf_23, hI_23, rf_24, rf_25, rf_26, rf_27, rf_28, hI_28, rf_29, rf_30, hI_30, rf_31, rf_32, hI_32, rf_33, hI_33, rf_34, rf_35, rf_36, rf_37, rf_38, rf_39, rf_40, rf_41, hI_41, rf_42, rf_43, rf_44, rf_45, rf_46, rf_47, rf_48, rf_49, rf_50, hI_50, rf_51, rf_52, rf_53, rf_54, rf_55, rf_56, rf_57, hI_57, rf_58, rf_59, rf_60, rf_61, rf_62, rf_63, rf_64, rf_65, rf_66, rf_67, rf_68, rf_69, rf_70, rf_71, rf_72, rf_73, rf_74, rf_75, hI_75, rf_76, rf_77, rf_78, hI_78, rf_79, rf_80, rf_81, hI_81, rf_82, hI_82, rf_83, rf_84, hI_84, rf_85, rf_86, rf_87, hI_87, rf_88, hI_88, rf_89, hI_89, rf_90, hI_90, rf_91, rf_92, rf_93, rf_94, hI_94, rf_95, hI_95, rf_96, rf_97, rf_98, rf_99, rf_100, hset_W, hA_74, hL_75, hA_76, hL_77, hA_78, hL_79, hA_80, hL_81, hA_82, hL_83, hA_84, hA_85, hA_86, hL_87, hA_88, hA_89, hA_90, hA_91, hA_92, hA_93, hA_94, hA_95, hA_96, hA_97, hA_98, hA_99, hA_100, hA_101, hA_102, hA_103, hA_104, hA_105, hL_106, hA_107, hA_108, hA_109, hA_110, hA_111, hA_112, hA_113, hA_114, hA_115, hA_116, hA_117, hA_118, hA_119, hA_120, hA_121, hA_122, hA_123, hA_124, hA_125, hA_126, hA_127, hA_128, hA_129, hA_130, hA_131, hA_132, hA_133, hA_134, hA_135, hA_136, hA_137, hA_138, hA_139, hA_140, hA_141, hA_142, hA_143, hA_144, hA_145, ni_ixL, ni_clL, ni_add, ni_mul, ni_lt, ni_le, ni_eq, ni_clamp, ni_ix, ni_lt0, ni_0le, ni_ltL, ni_Llt, ni_leL, ni_Lle, ni_eqL, ni_addL, ni_Ladd, ni_mulL, ni_Lmul, ni_subL, ni_sub, ni_Lsub, le_t, le_f, lt_t, lt_f, eq_f, il_lt, il_l0, il_g0, il_l1, il_g1, il_l2, il_g2, il_l3, il_g3, il_l4, il_g4, il_l5, il_g5, il_l7, il_g7, il_l8, il_g8, il_l9, il_g9, il_l10, il_g10, il_l15, il_g15, il_l20, il_g20, il_l23, il_g23, il_l24, il_g24, il_l60, il_g60, il_l100, il_g100, il_l999, il_g999, il_l1000, il_g1000, r_in, putR_lt hh, sA_1, sA_s, i1_0, bs_0, bs_1, im_lt, im_ge, im_eq, ni_em, c1]
      exact e
  · refine same_ro hw (v := some (.int (-100004))) (fun d Q => ?_) (fun d h Q hh => ?_)
    · simp (disch := first | exact c1_i _ | exact c1_r _ | exact c1_n | exact c1_m | omega | assumption | (apply ac_l; omega) | (apply ac_r; omega) | decide | exact Or.inl rfl) only [e_66_0, e_66_0n, e_66_1, e_66_4, e_66_7, e_66_9, e_66_12, e_66_14, e_66_15, e_66_15n, e_66_16, e_66_19, e_66_22, e_66_23, e_66_23n, e_66_24, e_66_27, e_66_30, e_66_33, e_66_36, e_66_37, e_66_37n, e_66_38, e_66_41, e_66_44, e_66_45, e_66_46, Option.toList_some, Option.toList_none, List.cons_append, List.nil_append, catS_cons, catS_nil, cat_int, cat_long, cat_ref, cat_null, c1_i, c1_r, c1_n, c1_m, true_and, and_true, and_self, putR_1, putR_u, eq_self, Nat.reduceLT, Nat.reduceLeDiff, Nat.reduceAdd, Nat.reduceEqDiff, vk_i, vk_l, vk_r, vk_n, vk_0, vk_1, if_true, if_false, not_true_eq_false, not_false_eq_true, false_and, and_false, ne_eq, true_or, or_true, ite_not, reduceCtorEq, putX_1, putX_u, putX_hi, hset_Xhi, px_5, xf_5_0, xf_5_1, xI_5_1, xf_5_2, xR_0, xf_5_3, xI_5_3, xf_5_4, xI_5_4, xf_5_5, xf_5_6, xI_5_6, xf_5_7, xf_5_8, xf_5_9, xf_5_10, xf_5_11, xf_5_12, xf_5_13, xf_5_14, xf_5_15, xI_5_15, px_6, xA_6, px_18, xA_18, px_19, xf_19_0, xI_19_0, xf_19_1, xR_1, xf_19_2, xI_19_2, px_20, xf_20_0, xI_20_0, xf_20_1, xR_2, xf_20_2, xI_20_2, px_21, xf_21_0, xI_21_0, xf_21_1, xR_3, xf_21_2, xI_21_2, px_22, xf_22_0, xI_22_0, xf_22_1, xR_4, xf_22_2, xI_22_2, px_23, xf_23_0, xI_23_0, xf_23_1, xR_5, xf_23_2, xI_23_2, px_24, xf_24_0, xI_24_0, xf_24_1, xR_6, xf_24_2, xI_24_2, px_25, xf_25_0, xI_25_0, xf_25_1, xI_25_1, xf_25_2, xf_25_3, xI_25_3, xf_25_4, xf_25_5, xf_25_6, px_26, xA_26, px_27, px_28, xA_28, px_29, xA_29, px_30, xA_30, px_31, xA_31, px_32, xA_32, px_33, xA_33, px_34, xA_34, px_35, xA_35, px_36, xA_36, px_37, xA_37, px_38, xA_38, px_39, xA_39, px_40, xA_40, px_41, xA_41, px_42, xA_42, px_43, xA_43, px_44, xA_44, px_45, xA_45, px_46, xA_46, px_47, xA_47, px_48, xA_48, px_49, xA_49, px_50, xA_50, px_51, xA_51, px_52, xA_52, px_53, xA_53, px_54, xA_54, px_55, xA_55, px_56, xA_56, px_57, xA_57, px_58, xA_58, px_59, xA_59, px_60, xA_60, px_61, xA_61, px_62, xA_62, px_63, xA_63, px_64, xA_64, px_65, xA_65, px_66, xA_66, px_67, xA_67, px_68, xA_68, px_69, xA_69, px_70, xf_70_0, xI_70_0, xf_70_1, xI_70_1, xf_70_2, xI_70_2, xf_70_3, xf_70_4, px_71, xA_71, px_72, xA_72, ni_ixL, ni_clL, ni_add, ni_mul, ni_lt, ni_le, ni_eq, ni_clamp, ni_ix, ni_lt0, ni_0le, ni_ltL, ni_Llt, ni_leL, ni_Lle, ni_eqL, ni_addL, ni_Ladd, ni_mulL, ni_Lmul, ni_subL, ni_sub, ni_Lsub, le_t, le_f, lt_t, lt_f, eq_f, il_lt, il_l0, il_g0, il_l1, il_g1, il_l2, il_g2, il_l3, il_g3, il_l4, il_g4, il_l5, il_g5, il_l7, il_g7, il_l8, il_g8, il_l9, il_g9, il_l10, il_g10, il_l15, il_g15, il_l20, il_g20, il_l23, il_g23, il_l24, il_g24, il_l60, il_g60, il_l100, il_g100, il_l999, il_g999, il_l1000, il_g1000, putR_lo, hset_lo, putR_lt hh, rd_hi, wr_hi, hs_1, hs_s, hs_o, uv_s, uv_o, pv_0, pv_n, i1_0, bs_0, bs_1, im_lt, im_ge, im_eq, ni_em, x_size_desk hw]
    · have : (g.1 0 3) = 8 := by omega
      simp (disch := first | exact c1_i _ | exact c1_r _ | exact c1_n | exact c1_m | omega | assumption | (apply ac_l; omega) | (apply ac_r; omega) | decide | exact Or.inl rfl) only [e_209_0, e_209_0n, e_209_1, e_209_4, e_209_6, e_209_9, e_209_11, e_209_12, e_209_13, e_209_15, e_209_17, e_209_20, e_209_20n, e_209_21, e_209_24, e_209_26, e_209_26n, e_209_27, e_209_30, e_209_31, e_209_32, e_209_33, e_209_34, e_209_35, e_209_38, e_209_41, e_209_41n, e_209_42, e_209_43, e_209_46, e_209_47, e_209_48, e_209_51, e_209_51n, e_209_52, e_209_55, e_209_56, e_209_57, Option.toList_some, Option.toList_none, List.cons_append, List.nil_append, catS_cons, catS_nil, cat_int, cat_long, cat_ref, cat_null, c1_i, c1_r, c1_n, c1_m, true_and, and_true, and_self, putR_1, putR_u, eq_self, Nat.reduceLT, Nat.reduceLeDiff, Nat.reduceAdd, Nat.reduceEqDiff, vk_i, vk_l, vk_r, vk_n, vk_0, vk_1, if_true, if_false, not_true_eq_false, not_false_eq_true, false_and, and_false, ne_eq, true_or, or_true, ite_not, reduceCtorEq, pr_73, pr_74, pr_75, pr_76, pr_77, pr_78, pr_79, pr_80, pr_81, pr_82, pr_83, pr_84, pr_85, pr_86, pr_87, pr_88, pr_89, pr_90, pr_91, pr_92, pr_93, pr_94, pr_95, pr_96, pr_97, pr_98, pr_99, pr_100, pr_101, pr_102, pr_103, pr_104, pr_105, pr_106, pr_107, pr_108, pr_109, pr_110, pr_111, pr_112, pr_113, pr_114, pr_115, pr_116, pr_117, pr_118, pr_119, pr_120, pr_121, pr_122, pr_123, pr_124, pr_125, pr_126, pr_127, pr_128, pr_129, pr_130, pr_131, pr_132, pr_133, pr_134, pr_135, pr_136, pr_137, pr_138, pr_139, pr_140, pr_141, pr_142, pr_143, pr_144, pr_145, rf_0, rf_1, hI_1, rf_2, hI_2, rf_3, hI_3, rf_4, hI_4, rf_5, hI_5, rf_6, hI_6, rf_7, hI_7, rf_8, rf_9, rf_10, rf_11, hI_11, rf_12, rf_13, rf_14, rf_15, rf_16, hI_16, rf_17, rf_18, rf_19, rf_20, rf_21, rf_22, rf_23, hI_23, rf_24, rf_25, rf_26, rf_27, rf_28, hI_28, rf_29, rf_30, hI_30, rf_31, rf_32, hI_32, rf_33, hI_33, rf_34, rf_35, rf_36, rf_37, rf_38, rf_39, rf_40, rf_41, hI_41, rf_42, rf_43, rf_44, rf_45, rf_46, rf_47, rf_48, rf_49, rf_50, hI_50, rf_51, rf_52, rf_53, rf_54, rf_55, rf_56, rf_57, hI_57, rf_58, rf_59, rf_60, rf_61, rf_62, rf_63, rf_64, rf_65, rf_66, rf_67, rf_68, rf_69, rf_70, rf_71, rf_72, rf_73, rf_74, rf_75, hI_75, rf_76, rf_77, rf_78, hI_78, rf_79, rf_80, rf_81, hI_81, rf_82, hI_82, rf_83, rf_84, hI_84, rf_85, rf_86, rf_87, hI_87, rf_88, hI_88, rf_89, hI_89, rf_90, hI_90, rf_91, rf_92, rf_93, rf_94, hI_94, rf_95, hI_95, rf_96, rf_97, rf_98, rf_99, rf_100, hset_W, hA_74, hL_75, hA_76, hL_77, hA_78, hL_79, hA_80, hL_81, hA_82, hL_83, hA_84, hA_85, hA_86, hL_87, hA_88, hA_89, hA_90, hA_91, hA_92, hA_93, hA_94, hA_95, hA_96, hA_97, hA_98, hA_99, hA_100, hA_101, hA_102, hA_103, hA_104, hA_105, hL_106, hA_107, hA_108, hA_109, hA_110, hA_111, hA_112, hA_113, hA_114, hA_115, hA_116, hA_117, hA_118, hA_119, hA_120, hA_121, hA_122, hA_123, hA_124, hA_125, hA_126, hA_127, hA_128, hA_129, hA_130, hA_131, hA_132, hA_133, hA_134, hA_135, hA_136, hA_137, hA_138, hA_139, hA_140, hA_141, hA_142, hA_143, hA_144, hA_145, ni_ixL, ni_clL, ni_add, ni_mul, ni_lt, ni_le, ni_eq, ni_clamp, ni_ix, ni_lt0, ni_0le, ni_ltL, ni_Llt, ni_leL, ni_Lle, ni_eqL, ni_addL, ni_Ladd, ni_mulL, ni_Lmul, ni_subL, ni_sub, ni_Lsub, le_t, le_f, lt_t, lt_f, eq_f, il_lt, il_l0, il_g0, il_l1, il_g1, il_l2, il_g2, il_l3, il_g3, il_l4, il_g4, il_l5, il_g5, il_l7, il_g7, il_l8, il_g8, il_l9, il_g9, il_l10, il_g10, il_l15, il_g15, il_l20, il_g20, il_l23, il_g23, il_l24, il_g24, il_l60, il_g60, il_l100, il_g100, il_l999, il_g999, il_l1000, il_g1000, r_in, putR_lt hh, sA_1, sA_s, i1_0, bs_0, bs_1, im_lt, im_ge, im_eq, ni_em, c1, eq_true this]
end
