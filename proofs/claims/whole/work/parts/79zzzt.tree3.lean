section
variable {K : Nat → pcell} {tb : Nat} {g g' g0 g1 g2 : gS} {r r' r0 v v' R ra s' s : rS} {x x' x0 x1 xb : xS} {h h' h0 h1 : pheap} {d : Nat} {Q : Option Value → pheap → Prop} {a n k m rc b L n0 p q j t c c2 c3 no A ce ce0 Dn N i ar sa o sv mm va ta D : Nat} {F fs sr w T V : Nat → Int32} {l l' lF : List Nat} {z e w0 w1 w2 w3 w4 : Int32} {os fc as nd : Nat → Nat}
theorem w5_i (hv : ∀ k, k < p → T (q + k) = V k) (v0 : w0 = V p) (v1 : w1 = V (p + 1)) (v2 : w2 = V (p + 2)) (v3 : w3 = V (p + 3)) (v4 : w4 = V (p + 4)) : ∀ k, k < p + 5 → w5F T (q + p) w0 w1 w2 w3 w4 (q + k) = V k := fun k hk => by
  unfold w5F
  by_cases e4 : k = p + 4
  · subst e4; rw [← Nat.add_assoc, upN_s]; exact v4
  rw [upN_n _ _ (by omega)]
  by_cases e3 : k = p + 3
  · subst e3; rw [← Nat.add_assoc, upN_s]; exact v3
  rw [upN_n _ _ (by omega)]
  by_cases e2 : k = p + 2
  · subst e2; rw [← Nat.add_assoc, upN_s]; exact v2
  rw [upN_n _ _ (by omega)]
  by_cases e1 : k = p + 1
  · subst e1; rw [← Nat.add_assoc, upN_s]; exact v1
  rw [upN_n _ _ (by omega)]
  by_cases e0 : k = p
  · subst e0; rw [upN_s]; exact v0
  rw [upN_n _ _ (by omega)]
  exact hv k (by omega)
theorem w5_o (h1 : k < p ∨ p + 5 ≤ k) : w5F T p w0 w1 w2 w3 w4 k = T k := by
  unfold w5F
  rw [upN_n _ _ (by omega), upN_n _ _ (by omega), upN_n _ _ (by omega), upN_n _ _ (by omega), upN_n _ _ (by omega)]
/-- the reference reads a row -/
theorem r_rt5 (hw : World K tb g r x h') (hD : D < (g.1 0 3)) (hc : c < 60) (hs1 : (s.2.2.1 94) = (r.2.2.1 94)) (hs2 : (s.2.2.1 76) = (r.2.2.1 76)) (hre : (s.1 89) = nI (A + L)) (hgt : ∀ k, k < L → (s.2.2.1 141) (A + k) = F k) (hAL : A + L ≤ 28800) (hL : L = 1 + 6 * m) (hm : m ≤ 12) (hi : i < m) (hk : k < (g.2.2.2.2.1 1)) (hF : F (1 + 6 * i) = nI k) {V3 : Int32} {V4 V5 V6 V7 : Value} (hh : 146 ≤ h.1) : ∃ V4' V5' V6' V7', Go (d + 3) 275 181 [.ref 73, .int (nI c), .int (nI D), .int V3, V4, V5, V6, V7] [] (putR (rgR s c (A + (1 + 6 * i)) (nI i) T) h) Q = Go (d + 3) 275 181 [.ref 73, .int (nI c), .int (nI D), .int V3, V4', V5', V6', V7'] [] (putR (rgR s c (A + (1 + 6 * (i + 1))) (nI (i + 1)) (w5F T (60 * c + 5 * i) (nI (nkF (fun k => (r.2.2.1 94) (9 * D + k)) ((g.2.2.2.2.2 35)) 8 k)) (nb F 2 (1 + 6 * i + 1) 0).toInt32 (F (1 + 6 * i + 3)) (F (1 + 6 * i + 4)) (F (1 + 6 * i + 5)))) h) Q := by
  have kn9 : (g.2.2.2.2.1 1) ≤ 9 := hw.2.1.1.2.2.2.2.2.2.2.2.2.1.2.2
  have hMR : ∀ p, MR (rgR s c (A + p) (nI i) T) A L F p := fun p => ⟨rfl, hre, hgt, hAL⟩
  have e1 := fun Q => r_read (d := d + 1) (h := h) (Q := Q) hh (hMR (1 + 6 * i)) (by omega)
  have e2 := fun Q => r_readA (d := d) (n := 2) (h := h) (Q := Q) hh (hMR (1 + 6 * i + 1)) (by omega) (by omega)
  have e3 := fun Q => r_read (d := d + 1) (h := h) (Q := Q) hh (hMR (1 + 6 * i + 1 + 2)) (by omega)
  have e4 := fun Q => r_read (d := d + 1) (h := h) (Q := Q) hh (hMR (1 + 6 * i + 1 + 2 + 1)) (by omega)
  have e5 := fun Q => r_read (d := d + 1) (h := h) (Q := Q) hh (hMR (1 + 6 * i + 1 + 2 + 1 + 1)) (by omega)
  rw [rg_at] at e1 e2 e3 e4 e5
  rw [hF] at e1
  have e6 := fun Q V5 V6 V7 => r_nk (d := d + 2) (h := h) (Q := Q) (V3 := V3) (V5 := V5) (V6 := V6) (V7 := V7) hw hD hc (s' := rgR s c (A + (1 + 6 * i + 1)) (nI i) T) hs1 hs2 hh 8 k (by omega) hk
  have e7 := fun Q w0 w1 w2 w3 w4 => r_row (d := d + 1) (s := s) (c := c) (i := i) (n := A + (1 + 6 * i + 1 + 2 + 1 + 1 + 1)) (T := T) (h := h) (Q := Q) (w0 := w0) (w1 := w1) (w2 := w2) (w3 := w3) (w4 := w4) hh hc (by omega)
  have f1 : (rgR s c (A + (1 + 6 * i)) (nI i) T).1 88 = nI (A + (1 + 6 * i)) := rfl
  have f2 : (rgR s c (A + (1 + 6 * i)) (nI i) T).1 89 = nI (A + L) := hre
  have n2 : nI 2 = 2 := rfl
  rw [n2] at e2
  rw [show 1 + 6 * (i + 1) = 1 + 6 * i + 1 + 2 + 1 + 1 + 1 by omega, show 1 + 6 * i + 3 = 1 + 6 * i + 1 + 2 by omega, show 1 + 6 * i + 4 = 1 + 6 * i + 1 + 2 + 1 by omega, show 1 + 6 * i + 5 = 1 + 6 * i + 1 + 2 + 1 + 1 by omega]
  refine ⟨.int (nI (nkF (fun k => (r.2.2.1 94) (9 * D + k)) ((g.2.2.2.2.2 35)) 8 k)), .int (nb F 2 (1 + 6 * i + 1) 0).toInt32, .int (F (1 + 6 * i + 1 + 2)), .int (F (1 + 6 * i + 1 + 2 + 1)), ?_⟩
  rw [e_275_181]
  simp (disch := first | exact c1_i _ | exact c1_r _ | exact c1_n | exact c1_m | omega | assumption | (apply ac_l; omega) | (apply ac_r; omega) | decide | exact Or.inl rfl) only [e_275_182, e_275_185, e_275_185n, e_275_186, e_275_189, e_275_192, e_275_192n, e_275_193, e_275_196, e_275_225, e_275_225n, e_275_226, e_275_227, e_275_230, e_275_231, e_275_233, e_275_233n, e_275_234, e_275_237, e_275_239, e_275_239n, e_275_240, e_275_243, e_275_245, e_275_245n, e_275_246, e_275_247, e_275_249, e_275_251, e_275_253, e_275_255, e_275_255n, e_275_256, e_275_259, e_275_262, Option.toList_some, Option.toList_none, List.cons_append, List.nil_append, catS_cons, catS_nil, cat_int, cat_long, cat_ref, cat_null, c1_i, c1_r, c1_n, c1_m, true_and, and_true, and_self, putR_1, putR_u, eq_self, Nat.reduceLT, Nat.reduceLeDiff, Nat.reduceAdd, Nat.reduceEqDiff, vk_i, vk_l, vk_r, vk_n, vk_0, vk_1, if_true, if_false, not_true_eq_false, not_false_eq_true, false_and, and_false, ne_eq, true_or, or_true, ite_not, reduceCtorEq, pr_73, pr_74, pr_75, pr_76, pr_77, pr_78, pr_79, pr_80, pr_81, pr_82, pr_83, pr_84, pr_85, pr_86, pr_87, pr_88, pr_89, pr_90, pr_91, pr_92, pr_93, pr_94, pr_95, pr_96, pr_97, pr_98, pr_99, pr_100, pr_101, pr_102, pr_103, pr_104, pr_105, pr_106, pr_107, pr_108, pr_109, pr_110, pr_111, pr_112, pr_113, pr_114, pr_115, pr_116, pr_117, pr_118, pr_119, pr_120, pr_121, pr_122, pr_123, pr_124, pr_125, pr_126, pr_127, pr_128, pr_129, pr_130, pr_131, pr_132, pr_133, pr_134, pr_135, pr_136, pr_137, pr_138, pr_139, pr_140, pr_141, pr_142, pr_143, pr_144, pr_145, rf_0, rf_1, hI_1, rf_2, hI_2, rf_3, hI_3, rf_4, hI_4, rf_5, hI_5, rf_6, hI_6, rf_7, hI_7, rf_8, rf_9, rf_10, rf_11, hI_11, rf_12, rf_13, rf_14, rf_15, rf_16, hI_16, rf_17, rf_18, rf_19, rf_20, rf_21, rf_22, rf_23, hI_23, rf_24, rf_25, rf_26, rf_27, rf_28, hI_28, rf_29, rf_30, hI_30, rf_31, rf_32, hI_32, rf_33, hI_33, rf_34, rf_35, rf_36, rf_37, rf_38, rf_39, rf_40, rf_41, hI_41, rf_42, rf_43, rf_44, rf_45, rf_46, rf_47, rf_48, rf_49, rf_50, hI_50, rf_51, rf_52, rf_53, rf_54, rf_55, rf_56, rf_57, hI_57, rf_58, rf_59, rf_60, rf_61, rf_62, rf_63, rf_64, rf_65, rf_66, rf_67, rf_68, rf_69, rf_70, rf_71, rf_72, rf_73, rf_74, rf_75, hI_75, rf_76, rf_77, rf_78, hI_78, rf_79, rf_80, rf_81, hI_81, rf_82, hI_82, rf_83, rf_84, hI_84, rf_85, rf_86, rf_87, hI_87, rf_88, hI_88, rf_89, hI_89, rf_90, hI_90, rf_91, rf_92, rf_93, rf_94, hI_94, rf_95, hI_95, rf_96, rf_97, rf_98, rf_99, rf_100, hset_W, hA_74, hL_75, hA_76, hL_77, hA_78, hL_79, hA_80, hL_81, hA_82, hL_83, hA_84, hA_85, hA_86, hL_87, hA_88, hA_89, hA_90, hA_91, hA_92, hA_93, hA_94, hA_95, hA_96, hA_97, hA_98, hA_99, hA_100, hA_101, hA_102, hA_103, hA_104, hA_105, hL_106, hA_107, hA_108, hA_109, hA_110, hA_111, hA_112, hA_113, hA_114, hA_115, hA_116, hA_117, hA_118, hA_119, hA_120, hA_121, hA_122, hA_123, hA_124, hA_125, hA_126, hA_127, hA_128, hA_129, hA_130, hA_131, hA_132, hA_133, hA_134, hA_135, hA_136, hA_137, hA_138, hA_139, hA_140, hA_141, hA_142, hA_143, hA_144, hA_145, ni_ixL, ni_clL, ni_add, ni_mul, ni_lt, ni_le, ni_eq, ni_clamp, ni_ix, ni_lt0, ni_0le, ni_ltL, ni_Llt, ni_leL, ni_Lle, ni_eqL, ni_addL, ni_Ladd, ni_mulL, ni_Lmul, ni_subL, ni_sub, ni_Lsub, le_t, le_f, lt_t, lt_f, eq_f, il_lt, il_l0, il_g0, il_l1, il_g1, il_l2, il_g2, il_l3, il_g3, il_l4, il_g4, il_l5, il_g5, il_l7, il_g7, il_l8, il_g8, il_l9, il_g9, il_l10, il_g10, il_l15, il_g15, il_l20, il_g20, il_l23, il_g23, il_l24, il_g24, il_l60, il_g60, il_l100, il_g100, il_l999, il_g999, il_l1000, il_g1000, r_in, putR_lt hh, sA_1, sA_s, i1_0, bs_0, bs_1, im_lt, im_ge, im_eq, ni_em, f1, f2, e1, e6, e2, e3, e4, e5, e7]
end
