/-! the reference takes an item without a node -/
theorem wrF_c {f b : Nat → Int32} {s t : Nat} : wrF (upN f s (b 0)) (fun i => b (i + 1)) (s + 1) t = wrF f b s (t + 1) := funext fun y => by
  unfold wrF
  by_cases e : y = s
  · subst e
    rw [if_neg (by omega), if_pos (by omega), upN_s, Nat.sub_self]
  · by_cases e1 : s + 1 ≤ y ∧ y < s + 1 + t
    · rw [if_pos e1, if_pos (by omega)]
      show b (y - (s + 1) + 1) = b (y - s)
      rw [show y - (s + 1) + 1 = y - s by omega]
    · rw [if_neg e1, if_neg (by omega), upN_n _ _ e]
theorem ni_m1 {m : Nat} (h : (-1 : Int32) = nI m) (hm : m ≤ 16) : False := by
  have := congrArg Int32.toInt h
  rw [ni_int (by omega)] at this
  have e : (-1 : Int32).toInt = -1 := by decide
  omega
section
variable {K : Nat → pcell} {tb : Nat} {g g' g1 g2 g0 : gS} {r r' r0 r1 r2 s' : rS} {x x' x1 x2 xb : xS} {h h' h1 h2 h0 : pheap} {a n k m i j c p q d A o b kp B L T rc ce no n0 Dn : Nat} {Q : Option Value → pheap → Prop} {e v nt dry s z c0 s0 D : Int32} {f F G cl fs : Nat → Int32} {ss : List Int32} {l : List Nat} {w : Int64} {os : Nat → Nat}
def LV (c0 s0 D : Int32) (ls : List Value) : Prop := ∃ Y5 Y6 Y7 Y8 Y9 Y10 Y11 Y12, isC1 Y8 ∧ ls = [.ref 73, .int c0, .int s0, .int D, .int 0, Y5, Y6, Y7, Y8, Y9, Y10, Y11, Y12]
def itR (r : rS) (T A q ce : Nat) (w : Int64) (z : Int32) (Lt Rf : Nat → Int32) : rS := sA (sL (sR (sR (raT (tdR r T) (A + q)) 89 Lt) 95 Rf) 87 ce w) 88 ce z
def rfF (r : rS) (Dn o : Nat) : Nat → Int32 := if (r.2.2.1 100) o = nI Dn then (r.2.2.1 95) else upN ((r.2.2.1 95)) (24 * Dn + o) ((r.2.2.1 93) ((r.2.2.1 100) o).toNatClampNeg)
theorem l_txtR (hp : p + m ≤ L) (hm : m ≤ 16) (hce : ce < 790) {so n10 : Int32} {v7 : Int64} : ∀ t k r, k + t = m → MR r A L F (p + k) → ∀ d (H : pheap) Q (Y : Value), 146 ≤ H.1 → ∃ Y', Go (d + 2) 273 162 [.ref 73, .int c0, .int s0, .int D, .int 0, .int (nI ce), .int so, .long v7, mk0, .int (nI m), .int n10, .int (nI k), Y] [] (putR r H) Q = Go (d + 2) 273 201 [.ref 73, .int c0, .int s0, .int D, .int 0, .int (nI ce), .int so, .long v7, mk0, .int (nI m), .int n10, .int (nI m), Y'] [] (putR (sR (raT r (A + (p + m))) 89 (wrF ((r.2.2.1 89)) (fun i => F (p + k + i)) (16 * ce + k) t)) H) Q
  | 0, k, r, hk, hr, d, H, Q, Y, hh => by
    have e : k = m := by omega
    have hL := hr.2.2.2
    have h1 := hr.1
    rw [e] at h1 ⊢
    have e1 : raT r (A + (p + m)) = r := by
      unfold raT
      rw [← h1]
      exact sI_i r _
    rw [wrF_0, e1, sR_i]
    refine ⟨Y, ?_⟩
    simp (disch := first | exact c1_i _ | exact c1_r _ | exact c1_n | exact c1_m | omega | assumption | (apply ac_l; omega) | (apply ac_r; omega) | decide | exact Or.inl rfl) only [e_273_162, e_273_164, e_273_166, Option.toList_some, Option.toList_none, List.cons_append, List.nil_append, catS_cons, catS_nil, cat_int, cat_long, cat_ref, cat_null, c1_i, c1_r, c1_n, c1_m, true_and, and_true, and_self, putR_1, putR_u, eq_self, Nat.reduceLT, Nat.reduceLeDiff, Nat.reduceAdd, Nat.reduceEqDiff, vk_i, vk_l, vk_r, vk_n, vk_0, vk_1, if_true, if_false, not_true_eq_false, not_false_eq_true, false_and, and_false, ne_eq, true_or, or_true, ite_not, reduceCtorEq, pr_73, pr_74, pr_75, pr_76, pr_77, pr_78, pr_79, pr_80, pr_81, pr_82, pr_83, pr_84, pr_85, pr_86, pr_87, pr_88, pr_89, pr_90, pr_91, pr_92, pr_93, pr_94, pr_95, pr_96, pr_97, pr_98, pr_99, pr_100, pr_101, pr_102, pr_103, pr_104, pr_105, pr_106, pr_107, pr_108, pr_109, pr_110, pr_111, pr_112, pr_113, pr_114, pr_115, pr_116, pr_117, pr_118, pr_119, pr_120, pr_121, pr_122, pr_123, pr_124, pr_125, pr_126, pr_127, pr_128, pr_129, pr_130, pr_131, pr_132, pr_133, pr_134, pr_135, pr_136, pr_137, pr_138, pr_139, pr_140, pr_141, pr_142, pr_143, pr_144, pr_145, rf_0, rf_1, hI_1, rf_2, hI_2, rf_3, hI_3, rf_4, hI_4, rf_5, hI_5, rf_6, hI_6, rf_7, hI_7, rf_8, rf_9, rf_10, rf_11, hI_11, rf_12, rf_13, rf_14, rf_15, rf_16, hI_16, rf_17, rf_18, rf_19, rf_20, rf_21, rf_22, rf_23, hI_23, rf_24, rf_25, rf_26, rf_27, rf_28, hI_28, rf_29, rf_30, hI_30, rf_31, rf_32, hI_32, rf_33, hI_33, rf_34, rf_35, rf_36, rf_37, rf_38, rf_39, rf_40, rf_41, hI_41, rf_42, rf_43, rf_44, rf_45, rf_46, rf_47, rf_48, rf_49, rf_50, hI_50, rf_51, rf_52, rf_53, rf_54, rf_55, rf_56, rf_57, hI_57, rf_58, rf_59, rf_60, rf_61, rf_62, rf_63, rf_64, rf_65, rf_66, rf_67, rf_68, rf_69, rf_70, rf_71, rf_72, rf_73, rf_74, rf_75, hI_75, rf_76, rf_77, rf_78, hI_78, rf_79, rf_80, rf_81, hI_81, rf_82, hI_82, rf_83, rf_84, hI_84, rf_85, rf_86, rf_87, hI_87, rf_88, hI_88, rf_89, hI_89, rf_90, hI_90, rf_91, rf_92, rf_93, rf_94, hI_94, rf_95, hI_95, rf_96, rf_97, rf_98, rf_99, rf_100, hset_W, hA_74, hL_75, hA_76, hL_77, hA_78, hL_79, hA_80, hL_81, hA_82, hL_83, hA_84, hA_85, hA_86, hL_87, hA_88, hA_89, hA_90, hA_91, hA_92, hA_93, hA_94, hA_95, hA_96, hA_97, hA_98, hA_99, hA_100, hA_101, hA_102, hA_103, hA_104, hA_105, hL_106, hA_107, hA_108, hA_109, hA_110, hA_111, hA_112, hA_113, hA_114, hA_115, hA_116, hA_117, hA_118, hA_119, hA_120, hA_121, hA_122, hA_123, hA_124, hA_125, hA_126, hA_127, hA_128, hA_129, hA_130, hA_131, hA_132, hA_133, hA_134, hA_135, hA_136, hA_137, hA_138, hA_139, hA_140, hA_141, hA_142, hA_143, hA_144, hA_145, ni_ixL, ni_clL, ni_add, ni_mul, ni_lt, ni_le, ni_eq, ni_clamp, ni_ix, ni_lt0, ni_0le, ni_ltL, ni_Llt, ni_leL, ni_Lle, ni_eqL, ni_addL, ni_Ladd, ni_mulL, ni_Lmul, ni_subL, ni_sub, ni_Lsub, le_t, le_f, lt_t, lt_f, eq_f, il_lt, il_l0, il_g0, il_l1, il_g1, il_l2, il_g2, il_l3, il_g3, il_l4, il_g4, il_l5, il_g5, il_l7, il_g7, il_l8, il_g8, il_l9, il_g9, il_l10, il_g10, il_l15, il_g15, il_l20, il_g20, il_l23, il_g23, il_l24, il_g24, il_l60, il_g60, il_l100, il_g100, il_l999, il_g999, il_l1000, il_g1000, r_in, putR_lt hh, sA_1, sA_s, i1_0, bs_0, bs_1, im_lt, im_ge, im_eq, ni_em]
  | t + 1, k, r, hk, hr, d, H, Q, Y, hh => by
    have hL := hr.2.2.2
    have hm1 : MR (sR (raT r (A + (p + k + 1))) 89 (upN ((r.2.2.1 89)) (16 * ce + k) (F (p + k)))) A L F (p + (k + 1)) := ⟨sI_s r 88 (nI (A + (p + k + 1))), hr.2.1, fun i hi => hr.2.2.1 i hi, hr.2.2.2⟩
    obtain ⟨Y', ih⟩ := l_txtR hp hm hce (so := so) (n10 := n10) (v7 := v7) t (k + 1) _ (by omega) hm1 d H Q (.int (F (p + k))) hh
    have e2 : sR (raT (sR (raT r (A + (p + k + 1))) 89 (upN ((r.2.2.1 89)) (16 * ce + k) (F (p + k)))) (A + (p + m))) 89 (wrF ((sR (raT r (A + (p + k + 1))) 89 (upN ((r.2.2.1 89)) (16 * ce + k) (F (p + k)))).2.2.1 89) (fun i => F (p + (k + 1) + i)) (16 * ce + (k + 1)) t) = sR (raT r (A + (p + m))) 89 (wrF ((r.2.2.1 89)) (fun i => F (p + k + i)) (16 * ce + k) (t + 1)) := by
      rw [sR_s]
      have e3 : (fun i => F (p + (k + 1) + i)) = fun i => (fun i => F (p + k + i)) (i + 1) := funext fun i => by
        show F (p + (k + 1) + i) = F (p + k + (i + 1))
        rw [show p + (k + 1) + i = p + k + (i + 1) by omega]
      have e4 : wrF (upN ((r.2.2.1 89)) (16 * ce + k) (F (p + k))) (fun i => F (p + (k + 1) + i)) (16 * ce + (k + 1)) t = wrF ((r.2.2.1 89)) (fun i => F (p + k + i)) (16 * ce + k) (t + 1) := by
        rw [e3]
        exact wrF_c (f := (r.2.2.1 89)) (b := fun i => F (p + k + i)) (s := 16 * ce + k) (t := t)
      rw [e4]
      unfold raT
      rw [sI_R, sI_I, sR_R]
    rw [e2] at ih
    have e3 := fun Q => r_read (d := d) (h := H) (Q := Q) hh hr (show p + k < L by omega)
    refine ⟨Y', ?_⟩
    rw [← ih, e_273_162]
    simp (disch := first | exact c1_i _ | exact c1_r _ | exact c1_n | exact c1_m | omega | assumption | (apply ac_l; omega) | (apply ac_r; omega) | decide | exact Or.inl rfl) only [e_273_164, e_273_166, e_273_169, e_273_169n, e_273_170, e_273_173, e_273_175, e_273_177, e_273_180, e_273_180n, e_273_181, e_273_184, e_273_186, e_273_188, e_273_189, e_273_191, e_273_192, e_273_194, e_273_195, e_273_198, Option.toList_some, Option.toList_none, List.cons_append, List.nil_append, catS_cons, catS_nil, cat_int, cat_long, cat_ref, cat_null, c1_i, c1_r, c1_n, c1_m, true_and, and_true, and_self, putR_1, putR_u, eq_self, Nat.reduceLT, Nat.reduceLeDiff, Nat.reduceAdd, Nat.reduceEqDiff, vk_i, vk_l, vk_r, vk_n, vk_0, vk_1, if_true, if_false, not_true_eq_false, not_false_eq_true, false_and, and_false, ne_eq, true_or, or_true, ite_not, reduceCtorEq, pr_73, pr_74, pr_75, pr_76, pr_77, pr_78, pr_79, pr_80, pr_81, pr_82, pr_83, pr_84, pr_85, pr_86, pr_87, pr_88, pr_89, pr_90, pr_91, pr_92, pr_93, pr_94, pr_95, pr_96, pr_97, pr_98, pr_99, pr_100, pr_101, pr_102, pr_103, pr_104, pr_105, pr_106, pr_107, pr_108, pr_109, pr_110, pr_111, pr_112, pr_113, pr_114, pr_115, pr_116, pr_117, pr_118, pr_119, pr_120, pr_121, pr_122, pr_123, pr_124, pr_125, pr_126, pr_127, pr_128, pr_129, pr_130, pr_131, pr_132, pr_133, pr_134, pr_135, pr_136, pr_137, pr_138, pr_139, pr_140, pr_141, pr_142, pr_143, pr_144, pr_145, rf_0, rf_1, hI_1, rf_2, hI_2, rf_3, hI_3, rf_4, hI_4, rf_5, hI_5, rf_6, hI_6, rf_7, hI_7, rf_8, rf_9, rf_10, rf_11, hI_11, rf_12, rf_13, rf_14, rf_15, rf_16, hI_16, rf_17, rf_18, rf_19, rf_20, rf_21, rf_22, rf_23, hI_23, rf_24, rf_25, rf_26, rf_27, rf_28, hI_28, rf_29, rf_30, hI_30, rf_31, rf_32, hI_32, rf_33, hI_33, rf_34, rf_35, rf_36, rf_37, rf_38, rf_39, rf_40, rf_41, hI_41, rf_42, rf_43, rf_44, rf_45, rf_46, rf_47, rf_48, rf_49, rf_50, hI_50, rf_51, rf_52, rf_53, rf_54, rf_55, rf_56, rf_57, hI_57, rf_58, rf_59, rf_60, rf_61, rf_62, rf_63, rf_64, rf_65, rf_66, rf_67, rf_68, rf_69, rf_70, rf_71, rf_72, rf_73, rf_74, rf_75, hI_75, rf_76, rf_77, rf_78, hI_78, rf_79, rf_80, rf_81, hI_81, rf_82, hI_82, rf_83, rf_84, hI_84, rf_85, rf_86, rf_87, hI_87, rf_88, hI_88, rf_89, hI_89, rf_90, hI_90, rf_91, rf_92, rf_93, rf_94, hI_94, rf_95, hI_95, rf_96, rf_97, rf_98, rf_99, rf_100, hset_W, hA_74, hL_75, hA_76, hL_77, hA_78, hL_79, hA_80, hL_81, hA_82, hL_83, hA_84, hA_85, hA_86, hL_87, hA_88, hA_89, hA_90, hA_91, hA_92, hA_93, hA_94, hA_95, hA_96, hA_97, hA_98, hA_99, hA_100, hA_101, hA_102, hA_103, hA_104, hA_105, hL_106, hA_107, hA_108, hA_109, hA_110, hA_111, hA_112, hA_113, hA_114, hA_115, hA_116, hA_117, hA_118, hA_119, hA_120, hA_121, hA_122, hA_123, hA_124, hA_125, hA_126, hA_127, hA_128, hA_129, hA_130, hA_131, hA_132, hA_133, hA_134, hA_135, hA_136, hA_137, hA_138, hA_139, hA_140, hA_141, hA_142, hA_143, hA_144, hA_145, ni_ixL, ni_clL, ni_add, ni_mul, ni_lt, ni_le, ni_eq, ni_clamp, ni_ix, ni_lt0, ni_0le, ni_ltL, ni_Llt, ni_leL, ni_Lle, ni_eqL, ni_addL, ni_Ladd, ni_mulL, ni_Lmul, ni_subL, ni_sub, ni_Lsub, le_t, le_f, lt_t, lt_f, eq_f, il_lt, il_l0, il_g0, il_l1, il_g1, il_l2, il_g2, il_l3, il_g3, il_l4, il_g4, il_l5, il_g5, il_l7, il_g7, il_l8, il_g8, il_l9, il_g9, il_l10, il_g10, il_l15, il_g15, il_l20, il_g20, il_l23, il_g23, il_l24, il_g24, il_l60, il_g60, il_l100, il_g100, il_l999, il_g999, il_l1000, il_g1000, r_in, putR_lt hh, sA_1, sA_s, i1_0, bs_0, bs_1, im_lt, im_ge, im_eq, ni_em, e3]
    rfl
end
