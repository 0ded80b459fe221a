section
variable {K : Nat → pcell} {tb : Nat} {g g' : gS} {r r' r0 : rS} {x x' : xS} {h h' : pheap} {a n k m i j c p q d A M f N : Nat} {Q : Option Value → pheap → Prop} {T : Nat → Nat} {R : Nat → Nat → Int32} {F B : Nat → Int32}
/-- the reference while it writes: the stack, the rows, how many -/
def fsR (r : rS) (B F : Nat → Int32) (m : Nat) : rS := (r.1, r.2.1, upN (upN (upN r.2.2.1 133 B) 132 F) 131 (upN ((r.2.2.1 131)) 60 (nI m)), r.2.2.2)
theorem fs_B : (fsR r B F m).2.2.1 133 = B := rfl
theorem fs_F : (fsR r B F m).2.2.1 132 = F := rfl
theorem fs_M : (fsR r B F m).2.2.1 131 60 = nI m := upN_s ((r.2.2.1 131)) 60 (nI m)
theorem fs_o (q1 : a ≠ 133) (q2 : a ≠ 132) (q3 : a ≠ 131) : (fsR r B F m).2.2.1 a = r.2.2.1 a := by
  unfold fsR
  show upN (upN (upN _ _ _) _ _) _ _ a = _
  rw [upN_n _ _ q3, upN_n _ _ q2, upN_n _ _ q1]
theorem fs_sB {v : Int32} : sA (fsR r B F m) 133 k v = fsR r (upN B k v) F m := by
  refine Prod.ext rfl (Prod.ext rfl (Prod.ext (funext fun a => ?_) rfl))
  by_cases e : a = 133
  · subst e
    rfl
  · rw [sA_a _ _ _ e]
    by_cases e2 : a = 132
    · subst e2; rfl
    · by_cases e3 : a = 131
      · subst e3; rfl
      · rw [fs_o e e2 e3, fs_o e e2 e3]
theorem fs_sF {v : Int32} : sA (fsR r B F m) 132 k v = fsR r B (upN F k v) m := by
  refine Prod.ext rfl (Prod.ext rfl (Prod.ext (funext fun a => ?_) rfl))
  by_cases e : a = 132
  · subst e
    rfl
  · rw [sA_a _ _ _ e]
    by_cases e2 : a = 133
    · subst e2; rfl
    · by_cases e3 : a = 131
      · subst e3; rfl
      · rw [fs_o e2 e e3, fs_o e2 e e3]
theorem fs_sM {n : Nat} : sA (fsR r B F m) 131 60 (nI n) = fsR r B F n := by
  refine Prod.ext rfl (Prod.ext rfl (Prod.ext (funext fun a => ?_) rfl))
  by_cases e : a = 131
  · subst e
    show upN (upN ((r.2.2.1 131)) 60 (nI m)) 60 (nI n) = upN ((r.2.2.1 131)) 60 (nI n)
    exact upN_u _ _ _ _
  · rw [sA_a _ _ _ e]
    by_cases e2 : a = 133
    · subst e2; rfl
    · by_cases e3 : a = 132
      · subst e3; rfl
      · rw [fs_o e2 e3 e, fs_o e2 e3 e]
theorem r_rowF (hh : 146 ≤ h.1) (hp : p < 12) {G : Nat → Int32} : Go (d + 1) 243 0 [.ref 73, .int 60, .int (G 0), .int (G 1), .int (G 2), .int (G 3), .int (G 4), mk0] [] (putR (fsR r B F p) h) Q = Q none (putR (fsR r B (wrF F G (5 * (720 + p)) 5) (p + 1)) h) := by
  rw [← rw_5 (F := F) (p := 720 + p) (G := G)]
  have c0 : (60 : Int32) * 60 + nI (5 * p) = nI (5 * (720 + p)) := by
    have e1 : (60 : Int32) * 60 = nI 3600 := by decide
    have e3 : nI 3600 + nI (5 * p) = nI (3600 + 5 * p) := ni_add _ _
    rw [e1, e3, show 3600 + 5 * p = 5 * (720 + p) by omega]
  simp (disch := first | exact c1_i _ | exact c1_r _ | exact c1_n | exact c1_m | omega | assumption | (apply ac_l; omega) | (apply ac_r; omega) | decide | exact Or.inl rfl) only [e_243_0, e_243_2, e_243_3, e_243_4, e_243_5, e_243_5n, e_243_6, e_243_9, e_243_10, e_243_11, e_243_12, e_243_13, e_243_15, e_243_15n, e_243_16, e_243_19, e_243_21, e_243_22, e_243_23, e_243_23n, e_243_24, e_243_27, e_243_29, e_243_30, e_243_31, e_243_32, e_243_33, e_243_33n, e_243_34, e_243_37, e_243_39, e_243_40, e_243_41, e_243_43, e_243_44, e_243_44n, e_243_45, e_243_48, e_243_50, e_243_51, e_243_52, e_243_54, e_243_55, e_243_55n, e_243_56, e_243_59, e_243_61, e_243_62, e_243_63, e_243_65, e_243_66, e_243_66n, e_243_67, e_243_70, e_243_71, e_243_72, e_243_73, e_243_74, e_243_75, e_243_76, Option.toList_some, Option.toList_none, List.cons_append, List.nil_append, catS_cons, catS_nil, cat_int, cat_long, cat_ref, cat_null, c1_i, c1_r, c1_n, c1_m, true_and, and_true, and_self, putR_1, putR_u, eq_self, Nat.reduceLT, Nat.reduceLeDiff, Nat.reduceAdd, Nat.reduceEqDiff, vk_i, vk_l, vk_r, vk_n, vk_0, vk_1, if_true, if_false, not_true_eq_false, not_false_eq_true, false_and, and_false, ne_eq, true_or, or_true, ite_not, reduceCtorEq, pr_73, pr_74, pr_75, pr_76, pr_77, pr_78, pr_79, pr_80, pr_81, pr_82, pr_83, pr_84, pr_85, pr_86, pr_87, pr_88, pr_89, pr_90, pr_91, pr_92, pr_93, pr_94, pr_95, pr_96, pr_97, pr_98, pr_99, pr_100, pr_101, pr_102, pr_103, pr_104, pr_105, pr_106, pr_107, pr_108, pr_109, pr_110, pr_111, pr_112, pr_113, pr_114, pr_115, pr_116, pr_117, pr_118, pr_119, pr_120, pr_121, pr_122, pr_123, pr_124, pr_125, pr_126, pr_127, pr_128, pr_129, pr_130, pr_131, pr_132, pr_133, pr_134, pr_135, pr_136, pr_137, pr_138, pr_139, pr_140, pr_141, pr_142, pr_143, pr_144, pr_145, rf_0, rf_1, hI_1, rf_2, hI_2, rf_3, hI_3, rf_4, hI_4, rf_5, hI_5, rf_6, hI_6, rf_7, hI_7, rf_8, rf_9, rf_10, rf_11, hI_11, rf_12, rf_13, rf_14, rf_15, rf_16, hI_16, rf_17, rf_18, rf_19, rf_20, rf_21, rf_22, rf_23, hI_23, rf_24, rf_25, rf_26, rf_27, rf_28, hI_28, rf_29, rf_30, hI_30, rf_31, rf_32, hI_32, rf_33, hI_33, rf_34, rf_35, rf_36, rf_37, rf_38, rf_39, rf_40, rf_41, hI_41, rf_42, rf_43, rf_44, rf_45, rf_46, rf_47, rf_48, rf_49, rf_50, hI_50, rf_51, rf_52, rf_53, rf_54, rf_55, rf_56, rf_57, hI_57, rf_58, rf_59, rf_60, rf_61, rf_62, rf_63, rf_64, rf_65, rf_66, rf_67, rf_68, rf_69, rf_70, rf_71, rf_72, rf_73, rf_74, rf_75, hI_75, rf_76, rf_77, rf_78, hI_78, rf_79, rf_80, rf_81, hI_81, rf_82, hI_82, rf_83, rf_84, hI_84, rf_85, rf_86, rf_87, hI_87, rf_88, hI_88, rf_89, hI_89, rf_90, hI_90, rf_91, rf_92, rf_93, rf_94, hI_94, rf_95, hI_95, rf_96, rf_97, rf_98, rf_99, rf_100, hset_W, hA_74, hL_75, hA_76, hL_77, hA_78, hL_79, hA_80, hL_81, hA_82, hL_83, hA_84, hA_85, hA_86, hL_87, hA_88, hA_89, hA_90, hA_91, hA_92, hA_93, hA_94, hA_95, hA_96, hA_97, hA_98, hA_99, hA_100, hA_101, hA_102, hA_103, hA_104, hA_105, hL_106, hA_107, hA_108, hA_109, hA_110, hA_111, hA_112, hA_113, hA_114, hA_115, hA_116, hA_117, hA_118, hA_119, hA_120, hA_121, hA_122, hA_123, hA_124, hA_125, hA_126, hA_127, hA_128, hA_129, hA_130, hA_131, hA_132, hA_133, hA_134, hA_135, hA_136, hA_137, hA_138, hA_139, hA_140, hA_141, hA_142, hA_143, hA_144, hA_145, ni_ixL, ni_clL, ni_add, ni_mul, ni_lt, ni_le, ni_eq, ni_clamp, ni_ix, ni_lt0, ni_0le, ni_ltL, ni_Llt, ni_leL, ni_Lle, ni_eqL, ni_addL, ni_Ladd, ni_mulL, ni_Lmul, ni_subL, ni_sub, ni_Lsub, le_t, le_f, lt_t, lt_f, eq_f, il_lt, il_l0, il_g0, il_l1, il_g1, il_l2, il_g2, il_l3, il_g3, il_l4, il_g4, il_l5, il_g5, il_l7, il_g7, il_l8, il_g8, il_l9, il_g9, il_l10, il_g10, il_l15, il_g15, il_l20, il_g20, il_l23, il_g23, il_l24, il_g24, il_l60, il_g60, il_l100, il_g100, il_l999, il_g999, il_l1000, il_g1000, r_in, putR_lt hh, sA_1, sA_s, i1_0, bs_0, bs_1, im_lt, im_ge, im_eq, ni_em, fs_M, c0, fs_sF, fs_sM]
end
