section
variable {K : Nat → pcell} {tb : Nat} {g g' : gS} {r r' r0 : rS} {x x' : xS} {h h' : pheap} {a n k m i j c p q d A M f N : Nat} {Q : Option Value → pheap → Prop} {T : Nat → Nat} {R : Nat → Nat → Int32} {F B : Nat → Int32} {e : Int32}
theorem fb_all (hL : ∀ k, k < (g.2.2.2.2.2 26) f → ∀ y, y ∈ fl g N ((g.2.2.2.2.2 25) (2 * f + k)) → y ≤ f) : ∀ k, k ≤ (g.2.2.2.2.2 26) f → ∀ y, y ∈ fbG g (fl g N) f k → y ≤ f
  | 0, _, y, hy => by cases hy
  | k + 1, hk, y, hy => by
    have hy' : y ∈ fbG g (fl g N) f k ++ fl g N ((g.2.2.2.2.2 25) (2 * f + k)) := hy
    rcases List.mem_append.mp hy' with z | z
    · exact fb_all hL k (by omega) y z
    · exact hL k (by omega) y z
theorem fl_all (hf : Fst g) : ∀ N f, f < (g.1 0 2) → ∀ y, y ∈ fl g N f → y ≤ f
  | 0, f, _, y, hy => by cases hy
  | N + 1, f, h2, y, hy => by
    obtain ⟨f1, f2, f3⟩ := hf f h2
    have hy' : y ∈ f :: ((if (g.2.2.2.2.2 24) f = 0 then [] else fl g N ((g.2.2.2.2.2 24) f - 1)) ++ fbG g (fl g N) f ((g.2.2.2.2.2 26) f)) := hy
    rcases List.mem_cons.mp hy' with z | z
    · omega
    · rcases List.mem_append.mp z with z | z
      · by_cases hz : (g.2.2.2.2.2 24) f = 0
        · rw [if_pos hz] at z
          cases z
        · rw [if_neg hz] at z
          have := fl_all hf N ((g.2.2.2.2.2 24) f - 1) (by omega) y z
          omega
      · refine fb_all (fun k hk y hy => ?_) ((g.2.2.2.2.2 26) f) (Nat.le_refl _) y z
        have h3 := f3 k hk
        have := fl_all hf N _ (by omega) y hy
        omega
theorem WL_two (hl : k < 5 * M) {l : List Nat} (hm : l.length = M) {G : Nat → Int32} : WL R F 0 l k = WL R G 720 l (3600 + k) := by
  have h1 := WL_at (R := R) l F 0 (k / 5) (k % 5) (by omega) (by omega)
  have h2 := WL_at (R := R) l G 720 (k / 5) (k % 5) (by omega) (by omega)
  rw [show 5 * (0 + k / 5) + k % 5 = k by omega] at h1
  rw [show 5 * (720 + k / 5) + k % 5 = 3600 + k by omega] at h2
  rw [h1, h2]
theorem r_failsAs (hw : World K tb g r x h') (hff : f < (g.1 0 2)) : ∃ B', ∀ d (H : pheap) Q, 146 ≤ H.1 → Go (d + 3) 254 0 [.ref 73, .int (nI f), .int (nI i), mk0, mk0, mk0] [] (putR r H) Q = Q none (putR (fsR (sI r 78 1) B' (WL (rwF g r i) ((r.2.2.1 132)) 720 (fl g 20 f)) ((g.2.2.2.2.2 36) f)) H) := by
  have hnf : (g.1 0 2) ≤ 16 := hw.2.1.1.2.2.2.2.1.2
  obtain ⟨-, -, -, -, -, -, -, u8, u9, -⟩ := w_fai hw f hff
  have hwb : World K tb g (sI r 78 1) x h' := w_sc hw (sc_fail 1)
  obtain ⟨B', Y4, Y5, y1, y2⟩ := r_failF (i := i) (ff := nI f) hwb (w_fst hw) (w_tsz hw) 20 f (by omega) hff 0 0 ((r.2.2.1 132)) (upN ((r.2.2.1 133)) 0 (nI f)) mk0 mk0 (by omega) (by omega) (upN_s _ _ _)
  rw [Nat.zero_add] at y2
  refine ⟨B', fun d H Q hh => ?_⟩
  have e1 : sA (sA (sI r 78 1) 131 60 0) 133 0 (nI f) = fsR (sI r 78 1) (upN ((r.2.2.1 133)) 0 (nI f)) ((r.2.2.1 132)) 0 := by
    refine Prod.ext rfl (Prod.ext rfl (Prod.ext (funext fun a => ?_) rfl))
    by_cases q1 : a = 133
    · subst q1; rfl
    · rw [sA_a _ _ _ q1]
      by_cases q2 : a = 131
      · subst q2; rfl
      · rw [sA_a _ _ _ q2]
        by_cases q3 : a = 132
        · subst q3; rfl
        · rw [fs_o q1 q3 q2]
  have st1 : Go (d + 3) 254 0 [.ref 73, .int (nI f), .int (nI i), mk0, mk0, mk0] [] (putR r H) Q = Go (d + 3) 254 20 [.ref 73, .int (nI f), .int (nI i), .int (nI (0 + 1)), mk0, mk0] [] (putR (fsR (sI r 78 1) (upN ((r.2.2.1 133)) 0 (nI f)) ((r.2.2.1 132)) 0) H) Q := by
    rw [← e1]
    simp (disch := first | exact c1_i _ | exact c1_r _ | exact c1_n | exact c1_m | omega | assumption | (apply ac_l; omega) | (apply ac_r; omega) | decide | exact Or.inl rfl) only [e_254_0, e_254_0n, e_254_1, e_254_2, e_254_5, e_254_5n, e_254_6, e_254_8, e_254_11, e_254_12, e_254_13, e_254_13n, e_254_14, e_254_17, e_254_18, e_254_19, e_231_0, e_231_0n, e_231_1, e_231_4, e_231_5, e_231_6, e_231_7, Option.toList_some, Option.toList_none, List.cons_append, List.nil_append, catS_cons, catS_nil, cat_int, cat_long, cat_ref, cat_null, c1_i, c1_r, c1_n, c1_m, true_and, and_true, and_self, putR_1, putR_u, eq_self, Nat.reduceLT, Nat.reduceLeDiff, Nat.reduceAdd, Nat.reduceEqDiff, vk_i, vk_l, vk_r, vk_n, vk_0, vk_1, if_true, if_false, not_true_eq_false, not_false_eq_true, false_and, and_false, ne_eq, true_or, or_true, ite_not, reduceCtorEq, pr_73, pr_74, pr_75, pr_76, pr_77, pr_78, pr_79, pr_80, pr_81, pr_82, pr_83, pr_84, pr_85, pr_86, pr_87, pr_88, pr_89, pr_90, pr_91, pr_92, pr_93, pr_94, pr_95, pr_96, pr_97, pr_98, pr_99, pr_100, pr_101, pr_102, pr_103, pr_104, pr_105, pr_106, pr_107, pr_108, pr_109, pr_110, pr_111, pr_112, pr_113, pr_114, pr_115, pr_116, pr_117, pr_118, pr_119, pr_120, pr_121, pr_122, pr_123, pr_124, pr_125, pr_126, pr_127, pr_128, pr_129, pr_130, pr_131, pr_132, pr_133, pr_134, pr_135, pr_136, pr_137, pr_138, pr_139, pr_140, pr_141, pr_142, pr_143, pr_144, pr_145, rf_0, rf_1, hI_1, rf_2, hI_2, rf_3, hI_3, rf_4, hI_4, rf_5, hI_5, rf_6, hI_6, rf_7, hI_7, rf_8, rf_9, rf_10, rf_11, hI_11, rf_12, rf_13, rf_14, rf_15, rf_16, hI_16, rf_17, rf_18, rf_19, rf_20, rf_21, rf_22, rf_23, hI_23, rf_24, rf_25, rf_26, rf_27, rf_28, hI_28, rf_29, rf_30, hI_30, rf_31, rf_32, hI_32, rf_33, hI_33, rf_34, rf_35, rf_36, rf_37, rf_38, rf_39, rf_40, rf_41, hI_41, rf_42, rf_43, rf_44, rf_45, rf_46, rf_47, rf_48, rf_49, rf_50, hI_50, rf_51, rf_52, rf_53, rf_54, rf_55, rf_56, rf_57, hI_57, rf_58, rf_59, rf_60, rf_61, rf_62, rf_63, rf_64, rf_65, rf_66, rf_67, rf_68, rf_69, rf_70, rf_71, rf_72, rf_73, rf_74, rf_75, hI_75, rf_76, rf_77, rf_78, hI_78, rf_79, rf_80, rf_81, hI_81, rf_82, hI_82, rf_83, rf_84, hI_84, rf_85, rf_86, rf_87, hI_87, rf_88, hI_88, rf_89, hI_89, rf_90, hI_90, rf_91, rf_92, rf_93, rf_94, hI_94, rf_95, hI_95, rf_96, rf_97, rf_98, rf_99, rf_100, hset_W, hA_74, hL_75, hA_76, hL_77, hA_78, hL_79, hA_80, hL_81, hA_82, hL_83, hA_84, hA_85, hA_86, hL_87, hA_88, hA_89, hA_90, hA_91, hA_92, hA_93, hA_94, hA_95, hA_96, hA_97, hA_98, hA_99, hA_100, hA_101, hA_102, hA_103, hA_104, hA_105, hL_106, hA_107, hA_108, hA_109, hA_110, hA_111, hA_112, hA_113, hA_114, hA_115, hA_116, hA_117, hA_118, hA_119, hA_120, hA_121, hA_122, hA_123, hA_124, hA_125, hA_126, hA_127, hA_128, hA_129, hA_130, hA_131, hA_132, hA_133, hA_134, hA_135, hA_136, hA_137, hA_138, hA_139, hA_140, hA_141, hA_142, hA_143, hA_144, hA_145, ni_ixL, ni_clL, ni_add, ni_mul, ni_lt, ni_le, ni_eq, ni_clamp, ni_ix, ni_lt0, ni_0le, ni_ltL, ni_Llt, ni_leL, ni_Lle, ni_eqL, ni_addL, ni_Ladd, ni_mulL, ni_Lmul, ni_subL, ni_sub, ni_Lsub, le_t, le_f, lt_t, lt_f, eq_f, il_lt, il_l0, il_g0, il_l1, il_g1, il_l2, il_g2, il_l3, il_g3, il_l4, il_g4, il_l5, il_g5, il_l7, il_g7, il_l8, il_g8, il_l9, il_g9, il_l10, il_g10, il_l15, il_g15, il_l20, il_g20, il_l23, il_g23, il_l24, il_g24, il_l60, il_g60, il_l100, il_g100, il_l999, il_g999, il_l1000, il_g1000, r_in, putR_lt hh, sA_1, sA_s, i1_0, bs_0, bs_1, im_lt, im_ge, im_eq, ni_em]
    rfl
  have hy := y2 (d + 1) H Q hh
  rw [st1]
  refine hy.trans ?_
  have l0 : (nI 0 : Int32) ≤ 0 := by decide
  have hR : rwF g (sI r 78 1) i = rwF g r i := rfl
  rw [hR, Nat.add_zero, Nat.zero_add]
  simp (disch := first | exact c1_i _ | exact c1_r _ | exact c1_n | exact c1_m | omega | assumption | (apply ac_l; omega) | (apply ac_r; omega) | decide | exact Or.inl rfl) only [e_254_20, e_254_21, e_254_150, Option.toList_some, Option.toList_none, List.cons_append, List.nil_append, catS_cons, catS_nil, cat_int, cat_long, cat_ref, cat_null, c1_i, c1_r, c1_n, c1_m, true_and, and_true, and_self, putR_1, putR_u, eq_self, Nat.reduceLT, Nat.reduceLeDiff, Nat.reduceAdd, Nat.reduceEqDiff, vk_i, vk_l, vk_r, vk_n, vk_0, vk_1, if_true, if_false, not_true_eq_false, not_false_eq_true, false_and, and_false, ne_eq, true_or, or_true, ite_not, reduceCtorEq, pr_73, pr_74, pr_75, pr_76, pr_77, pr_78, pr_79, pr_80, pr_81, pr_82, pr_83, pr_84, pr_85, pr_86, pr_87, pr_88, pr_89, pr_90, pr_91, pr_92, pr_93, pr_94, pr_95, pr_96, pr_97, pr_98, pr_99, pr_100, pr_101, pr_102, pr_103, pr_104, pr_105, pr_106, pr_107, pr_108, pr_109, pr_110, pr_111, pr_112, pr_113, pr_114, pr_115, pr_116, pr_117, pr_118, pr_119, pr_120, pr_121, pr_122, pr_123, pr_124, pr_125, pr_126, pr_127, pr_128, pr_129, pr_130, pr_131, pr_132, pr_133, pr_134, pr_135, pr_136, pr_137, pr_138, pr_139, pr_140, pr_141, pr_142, pr_143, pr_144, pr_145, rf_0, rf_1, hI_1, rf_2, hI_2, rf_3, hI_3, rf_4, hI_4, rf_5, hI_5, rf_6, hI_6, rf_7, hI_7, rf_8, rf_9, rf_10, rf_11, hI_11, rf_12, rf_13, rf_14, rf_15, rf_16, hI_16, rf_17, rf_18, rf_19, rf_20, rf_21, rf_22, rf_23, hI_23, rf_24, rf_25, rf_26, rf_27, rf_28, hI_28, rf_29, rf_30, hI_30, rf_31, rf_32, hI_32, rf_33, hI_33, rf_34, rf_35, rf_36, rf_37, rf_38, rf_39, rf_40, rf_41, hI_41, rf_42, rf_43, rf_44, rf_45, rf_46, rf_47, rf_48, rf_49, rf_50, hI_50, rf_51, rf_52, rf_53, rf_54, rf_55, rf_56, rf_57, hI_57, rf_58, rf_59, rf_60, rf_61, rf_62, rf_63, rf_64, rf_65, rf_66, rf_67, rf_68, rf_69, rf_70, rf_71, rf_72, rf_73, rf_74, rf_75, hI_75, rf_76, rf_77, rf_78, hI_78, rf_79, rf_80, rf_81, hI_81, rf_82, hI_82, rf_83, rf_84, hI_84, rf_85, rf_86, rf_87, hI_87, rf_88, hI_88, rf_89, hI_89, rf_90, hI_90, rf_91, rf_92, rf_93, rf_94, hI_94, rf_95, hI_95, rf_96, rf_97, rf_98, rf_99, rf_100, hset_W, hA_74, hL_75, hA_76, hL_77, hA_78, hL_79, hA_80, hL_81, hA_82, hL_83, hA_84, hA_85, hA_86, hL_87, hA_88, hA_89, hA_90, hA_91, hA_92, hA_93, hA_94, hA_95, hA_96, hA_97, hA_98, hA_99, hA_100, hA_101, hA_102, hA_103, hA_104, hA_105, hL_106, hA_107, hA_108, hA_109, hA_110, hA_111, hA_112, hA_113, hA_114, hA_115, hA_116, hA_117, hA_118, hA_119, hA_120, hA_121, hA_122, hA_123, hA_124, hA_125, hA_126, hA_127, hA_128, hA_129, hA_130, hA_131, hA_132, hA_133, hA_134, hA_135, hA_136, hA_137, hA_138, hA_139, hA_140, hA_141, hA_142, hA_143, hA_144, hA_145, ni_ixL, ni_clL, ni_add, ni_mul, ni_lt, ni_le, ni_eq, ni_clamp, ni_ix, ni_lt0, ni_0le, ni_ltL, ni_Llt, ni_leL, ni_Lle, ni_eqL, ni_addL, ni_Ladd, ni_mulL, ni_Lmul, ni_subL, ni_sub, ni_Lsub, le_t, le_f, lt_t, lt_f, eq_f, il_lt, il_l0, il_g0, il_l1, il_g1, il_l2, il_g2, il_l3, il_g3, il_l4, il_g4, il_l5, il_g5, il_l7, il_g7, il_l8, il_g8, il_l9, il_g9, il_l10, il_g10, il_l15, il_g15, il_l20, il_g20, il_l23, il_g23, il_l24, il_g24, il_l60, il_g60, il_l100, il_g100, il_l999, il_g999, il_l1000, il_g1000, r_in, putR_lt hh, sA_1, sA_s, i1_0, bs_0, bs_1, im_lt, im_ge, im_eq, ni_em, l0]
end
