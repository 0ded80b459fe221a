/-! the reference takes a node -/
section
variable {K : Nat → pcell} {tb : Nat} {g g' g1 g2 g0 : gS} {r r' r0 r1 r2 s' v : rS} {x x' x1 x2 xb : xS} {h h' h1 h2 h0 : pheap} {a n k m i j c p q d A o b kp B L T rc ce no n0 Dn cl : Nat} {Q : Option Value → pheap → Prop} {e nt dry s z c0 s0 D : Int32} {f F fs : Nat → Int32} {ss : List Int32} {l : List Nat} {w : Int64} {os : Nat → Nat} {P G : Nat → Prop}
theorem r_fresh2 (hh : 146 ≤ h.1) (n1 : (r.1 32) = nI n) (hn60 : n < 60) (hrc : rc < 6) (f1 : (r.2.2.1 78) rc = nI m) (hm6 : m ≤ 6) (hfs : ∀ i, i < m → fs i = (r.2.2.1 80) (6 * rc + i)) : Go (d + 2) 193 0 [.ref 73, .int (nI rc), mk0] [] (putR r h) Q = Q (some (.int (nI n))) (putR (ndR r n rc m fs) h) := by
  have e := l_fresh (d := d) (h := h) (Q := Q) (r := sA r 92 n (nI rc)) (rc := rc) (n := n) (m := m) (fs := fs) (N := (r.2.2.2 87)) (L := (r.2.2.1 88)) hh n1 hn60 hrc f1 hm6 hfs m 0 (by omega)
  rw [wrL_0, wrF_0] at e
  have e1 : sR (sLR (sA r 92 n (nI rc)) 87 ((r.2.2.2 87))) 88 ((r.2.2.1 88)) = sA r 92 n (nI rc) := by
    have y1 : sLR (sA r 92 n (nI rc)) 87 ((r.2.2.2 87)) = sA r 92 n (nI rc) := sLR_i (sA r 92 n (nI rc)) 87
    rw [y1]
    exact sR_i (sA r 92 n (nI rc)) 88
  rw [e1] at e
  unfold ndR
  rw [← e]
  simp (disch := first | exact c1_i _ | exact c1_r _ | exact c1_n | exact c1_m | omega | assumption | (apply ac_l; omega) | (apply ac_r; omega) | decide | exact Or.inl rfl) only [e_193_0, e_193_0n, e_193_1, e_193_4, e_193_4n, e_193_5, e_193_8, e_193_9, e_193_10, e_193_11, Option.toList_some, Option.toList_none, List.cons_append, List.nil_append, catS_cons, catS_nil, cat_int, cat_long, cat_ref, cat_null, c1_i, c1_r, c1_n, c1_m, true_and, and_true, and_self, putR_1, putR_u, eq_self, Nat.reduceLT, Nat.reduceLeDiff, Nat.reduceAdd, Nat.reduceEqDiff, vk_i, vk_l, vk_r, vk_n, vk_0, vk_1, if_true, if_false, not_true_eq_false, not_false_eq_true, false_and, and_false, ne_eq, true_or, or_true, ite_not, reduceCtorEq, pr_73, pr_74, pr_75, pr_76, pr_77, pr_78, pr_79, pr_80, pr_81, pr_82, pr_83, pr_84, pr_85, pr_86, pr_87, pr_88, pr_89, pr_90, pr_91, pr_92, pr_93, pr_94, pr_95, pr_96, pr_97, pr_98, pr_99, pr_100, pr_101, pr_102, pr_103, pr_104, pr_105, pr_106, pr_107, pr_108, pr_109, pr_110, pr_111, pr_112, pr_113, pr_114, pr_115, pr_116, pr_117, pr_118, pr_119, pr_120, pr_121, pr_122, pr_123, pr_124, pr_125, pr_126, pr_127, pr_128, pr_129, pr_130, pr_131, pr_132, pr_133, pr_134, pr_135, pr_136, pr_137, pr_138, pr_139, pr_140, pr_141, pr_142, pr_143, pr_144, pr_145, rf_0, rf_1, hI_1, rf_2, hI_2, rf_3, hI_3, rf_4, hI_4, rf_5, hI_5, rf_6, hI_6, rf_7, hI_7, rf_8, rf_9, rf_10, rf_11, hI_11, rf_12, rf_13, rf_14, rf_15, rf_16, hI_16, rf_17, rf_18, rf_19, rf_20, rf_21, rf_22, rf_23, hI_23, rf_24, rf_25, rf_26, rf_27, rf_28, hI_28, rf_29, rf_30, hI_30, rf_31, rf_32, hI_32, rf_33, hI_33, rf_34, rf_35, rf_36, rf_37, rf_38, rf_39, rf_40, rf_41, hI_41, rf_42, rf_43, rf_44, rf_45, rf_46, rf_47, rf_48, rf_49, rf_50, hI_50, rf_51, rf_52, rf_53, rf_54, rf_55, rf_56, rf_57, hI_57, rf_58, rf_59, rf_60, rf_61, rf_62, rf_63, rf_64, rf_65, rf_66, rf_67, rf_68, rf_69, rf_70, rf_71, rf_72, rf_73, rf_74, rf_75, hI_75, rf_76, rf_77, rf_78, hI_78, rf_79, rf_80, rf_81, hI_81, rf_82, hI_82, rf_83, rf_84, hI_84, rf_85, rf_86, rf_87, hI_87, rf_88, hI_88, rf_89, hI_89, rf_90, hI_90, rf_91, rf_92, rf_93, rf_94, hI_94, rf_95, hI_95, rf_96, rf_97, rf_98, rf_99, rf_100, hset_W, hA_74, hL_75, hA_76, hL_77, hA_78, hL_79, hA_80, hL_81, hA_82, hL_83, hA_84, hA_85, hA_86, hL_87, hA_88, hA_89, hA_90, hA_91, hA_92, hA_93, hA_94, hA_95, hA_96, hA_97, hA_98, hA_99, hA_100, hA_101, hA_102, hA_103, hA_104, hA_105, hL_106, hA_107, hA_108, hA_109, hA_110, hA_111, hA_112, hA_113, hA_114, hA_115, hA_116, hA_117, hA_118, hA_119, hA_120, hA_121, hA_122, hA_123, hA_124, hA_125, hA_126, hA_127, hA_128, hA_129, hA_130, hA_131, hA_132, hA_133, hA_134, hA_135, hA_136, hA_137, hA_138, hA_139, hA_140, hA_141, hA_142, hA_143, hA_144, hA_145, ni_ixL, ni_clL, ni_add, ni_mul, ni_lt, ni_le, ni_eq, ni_clamp, ni_ix, ni_lt0, ni_0le, ni_ltL, ni_Llt, ni_leL, ni_Lle, ni_eqL, ni_addL, ni_Ladd, ni_mulL, ni_Lmul, ni_subL, ni_sub, ni_Lsub, le_t, le_f, lt_t, lt_f, eq_f, il_lt, il_l0, il_g0, il_l1, il_g1, il_l2, il_g2, il_l3, il_g3, il_l4, il_g4, il_l5, il_g5, il_l7, il_g7, il_l8, il_g8, il_l9, il_g9, il_l10, il_g10, il_l15, il_g15, il_l20, il_g20, il_l23, il_g23, il_l24, il_g24, il_l60, il_g60, il_l100, il_g100, il_l999, il_g999, il_l1000, il_g1000, r_in, putR_lt hh, sA_1, sA_s, i1_0, bs_0, bs_1, im_lt, im_ge, im_eq, ni_em, n1]
  rfl
/-- what a node leaves -/
def NR (r' r : rS) (T A p ce n rc m cl : Nat) (fs : Nat → Int32) : Prop :=
  (∀ k, k ≠ 87 → k ≠ 88 → k ≠ 90 → k ≠ 32 → r'.1 k = r.1 k) ∧ (r'.1 87) = nI (T + m) ∧ (r'.1 88) = nI (A + (p + 1)) ∧ (r'.1 90) = nI (cl + 1) ∧ (r'.1 32) = nI (n + 1) ∧ r'.2.1 = r.2.1 ∧
  (∀ a, a ≠ 136 → a ≠ 137 → a ≠ 138 → a ≠ 92 → a ≠ 88 → r'.2.2.1 a = r.2.2.1 a) ∧ (r'.2.2.1 92) = upN ((r.2.2.1 92)) n (nI rc) ∧ (r'.2.2.1 88) = upN (wrF ((r.2.2.1 88)) (fun _ => -1) (3 + 6 * n) m) ce (-1) ∧
  (∀ a, a ≠ 87 → r'.2.2.2 a = r.2.2.2 a) ∧ (r'.2.2.2 87) = upN (wrL ((r.2.2.2 87)) (fun i => zv (fs i)) (3 + 6 * n) m) ce (nI n).toInt64 ∧ (r'.2.2.1 138) = upN ((r.2.2.1 138)) cl (nI n) ∧
  (∀ j, j < T → (r'.2.2.1 136) j = (r.2.2.1 136) j ∧ (r'.2.2.1 137) j = (r.2.2.1 137) j) ∧ ∀ i, i < m → (r'.2.2.1 137) (T + (m - 1 - i)) = fs i ∧ (r'.2.2.1 136) (T + (m - 1 - i)) = nI (3 + 6 * n + i)
theorem nd_ref (hT : (r.1 87) = nI (T + 1)) (hT1 : T + m ≤ 100) (hT2 : T < 100) (hc : (r.2.2.1 136) T = nI ce) (hs : (r.2.2.1 137) T = nI (10 + rc)) (hce : ce < 790) (hmr : MR r A L F p) (hF : F p = 253) (hp : p < L) (n1 : (r.1 32) = nI n) (hn60 : n < 60) (hrc : rc < 6) (f1 : (r.2.2.1 78) rc = nI m) (hm6 : m ≤ 6) (hfs : ∀ i, fs i = (r.2.2.1 80) (6 * rc + i)) (hcm : (r.1 90) = nI cl) (hcl : cl < 12) : ∃ r', NR r' r T A p ce n rc m cl fs ∧ ∀ d (H : pheap) Q ls, 146 ≤ H.1 → LV c0 s0 D ls → ∃ ls', LV c0 s0 D ls' ∧ Go (d + 4) 273 11 ls [] (putR r H) Q = Go (d + 4) 273 11 ls' [] (putR r' H) Q := by
  have hL := hmr.2.2.2
  have hmr1 : MR (tdR r T) A L F p := hmr
  obtain ⟨r2, y1, y2, y3, y4⟩ := l_psh (rc := rc) (fs := fs) (cl := fun i => nI (3 + 6 * n + i)) (dry := 0) (n := n) (bb := 253) (r := cmR (sA (ndR (raT (tdR r T) (A + (p + 1))) n rc m fs) 138 cl (nI n)) (cl + 1)) hrc (fun i _ => (hfs i).symm) (by omega) (Or.inr ⟨rfl, fun _ => rfl⟩) m T _ hm6 psf_r (show (cmR (sA (ndR (raT (tdR r T) (A + (p + 1))) n rc m fs) 138 cl (nI n)) (cl + 1)).1 87 = nI T from sI_s r 87 (nI T)) hT1
  refine ⟨sA (sL r2 87 ce (nI n).toInt64) 88 ce (-1), ⟨fun k q1 q2 q3 q4 => ?_, y2, ?_, ?_, ?_, ?_, fun a q1 q2 q3 q4 q5 => ?_, ?_, ?_, fun a ha => ?_, ?_, ?_, fun j hj => y1.2.2.2.2 j hj, y3⟩, ?_⟩
  · show r2.1 k = _
    rw [y1.1 k q1]
    show (sI (sI (sI (sI r 87 (nI T)) 88 (nI (A + (p + 1)))) 32 (nI (n + 1))) 90 (nI (cl + 1))).1 k = _
    rw [sI_n _ _ q3, sI_n _ _ q4, sI_n _ _ q2, sI_n _ _ q1]
  · exact (y1.1 _ (by decide)).trans rfl
  · exact (y1.1 _ (by decide)).trans rfl
  · exact (y1.1 _ (by decide)).trans rfl
  · exact y1.2.1
  · rw [sA_a _ _ _ q5]
    show r2.2.2.1 a = _
    rw [y1.2.2.1 a q1 q2]
    show (upN (upN (upN r.2.2.1 92 (upN ((r.2.2.1 92)) n (nI rc))) 88 (wrF ((r.2.2.1 88)) (fun _ => -1) (3 + 6 * n) m)) 138 (upN ((r.2.2.1 138)) cl (nI n))) a = _
    rw [upN_n _ _ q3, upN_n _ _ q5, upN_n _ _ q4]
  · exact (y1.2.2.1 _ (by decide) (by decide)).trans rfl
  · show upN (r2.2.2.1 88) ce (-1) = _
    rw [y1.2.2.1 _ (by decide) (by decide)]
    rfl
  · show upN r2.2.2.2 87 _ a = _
    rw [upN_n _ _ ha, y1.2.2.2.1]
    show upN r.2.2.2 87 _ a = _
    rw [upN_n _ _ ha]
  · show upN (r2.2.2.2 87) ce _ = _
    rw [y1.2.2.2.1]
    rfl
  · exact (y1.2.2.1 _ (by decide) (by decide)).trans rfl
  · have s20 : ¬ (20 : Int32) ≤ nI (10 + rc) := fun y => by
      have y' : nI 20 ≤ nI (10 + rc) := y
      rw [ni_le (by omega) (by omega)] at y'
      omega
    have hne : ∀ c : Nat, c < 10 → (nI (10 + rc) = nI c) = False := fun c hc => by
      rw [ni_eq (by omega) (by omega)]
      exact eq_false (by omega)
    have c0' : (nI (10 + rc) = 0) = False := hne 0 (by omega)
    have c1' : (nI (10 + rc) = 1) = False := hne 1 (by omega)
    have c2' : (nI (10 + rc) = 2) = False := hne 2 (by omega)
    have c3' : (nI (10 + rc) = 3) = False := hne 3 (by omega)
    have c4' : (nI (10 + rc) = 4) = False := hne 4 (by omega)
    have g20 := i_lty s20
    have e10 : nI (10 + rc) - 10 = nI rc := by
      have := ni_sub (a := 10 + rc) (b := 10) (by omega)
      rw [show 10 + rc - 10 = rc by omega] at this
      exact this
    refine it_fin hT hT2 hc hs hce (fun d H Q Y10 Y11 Y12 hh => ⟨Y10, Y11, Y12, ?_⟩)
    have e := fun Q => r_read (d := d + 1) (h := H) (Q := Q) hh hmr1 hp
    rw [hF] at e
    have i35 : ((253 : Int32) = 255) = False := eq_false (by decide)
    have i34 : ((253 : Int32) = 254) = False := eq_false (by decide)
    have ef := fun Q => r_fresh2 (d := d) (h := H) (Q := Q) (r := raT (tdR r T) (A + (p + 1))) (n := n) (rc := rc) (m := m) (fs := fs) hh n1 hn60 hrc f1 hm6 (fun i _ => hfs i)
    have e2 : (ndR (raT (tdR r T) (A + (p + 1))) n rc m fs).1 90 = nI cl := hcm
    have e3 : (sA (ndR (raT (tdR r T) (A + (p + 1))) n rc m fs) 138 cl (nI n)).1 90 = nI cl := hcm
    have e4 : (cmR (sA (ndR (raT (tdR r T) (A + (p + 1))) n rc m fs) 138 cl (nI n)) (cl + 1)).2.2.1 78 rc = nI m := f1
    have e5 := fun Q => y4 (d + 1) H Q hh
    unfold cmR at e4 e5
    simp (disch := first | exact c1_i _ | exact c1_r _ | exact c1_n | exact c1_m | omega | assumption | (apply ac_l; omega) | (apply ac_r; omega) | decide | exact Or.inl rfl) only [e_273_58, e_273_60, e_273_63, e_273_63n, e_273_64, e_273_65, e_273_68, e_273_69, e_273_70, e_273_72, e_273_75, e_273_77, e_273_78, e_273_81, e_273_83, e_273_84, e_273_87, e_273_87n, e_273_88, e_273_90, e_273_93, e_273_95, e_273_98, e_273_100, e_273_101, e_273_104, e_273_104n, e_273_105, e_273_108, e_273_109, e_273_111, e_273_114, e_273_116, e_273_117, e_273_120, e_273_120n, e_273_121, e_273_124, e_273_126, e_273_128, e_273_131, e_273_134, e_273_137, e_273_140, e_273_141, e_273_143, e_273_145, e_273_148, e_273_151, e_273_152, e_273_155, e_273_157, e_273_159, e_273_160, e_273_204, e_273_206, e_273_208, e_273_211, e_273_211n, e_273_212, e_273_215, e_273_217, e_273_219, e_273_222, e_273_225, e_273_228, e_273_231, e_273_233, e_273_234, e_273_236, e_273_238, e_273_241, e_273_244, e_273_246, e_273_249, e_273_249n, e_273_250, e_273_251, e_273_253, e_273_256, e_273_259, e_273_259n, e_273_260, e_273_262, e_273_264, e_273_265, e_273_267, e_273_270, e_273_271, e_274_0, e_274_0n, e_274_1, e_274_4, e_274_5, e_274_6, e_274_9, e_274_12, e_274_13, e_274_14, e_274_15, e_274_18, e_274_21, e_274_21n, e_274_22, e_274_25, e_274_25n, e_274_26, e_274_29, e_274_30, e_274_31, e_274_32, e_274_35, e_274_35n, e_274_36, e_274_39, e_274_39n, e_274_40, e_274_43, e_274_44, e_274_47, e_274_47n, e_274_48, e_274_49, e_274_52, e_274_54, e_274_54n, e_274_55, e_274_58, e_274_58n, e_274_59, e_274_62, e_274_64, e_274_65, e_274_65n, e_274_66, e_274_67, e_274_70, e_274_71, e_274_72, e_274_75, e_274_75n, e_274_76, e_274_79, e_274_80, e_274_81, e_274_82, e_274_83, Option.toList_some, Option.toList_none, List.cons_append, List.nil_append, catS_cons, catS_nil, cat_int, cat_long, cat_ref, cat_null, c1_i, c1_r, c1_n, c1_m, true_and, and_true, and_self, putR_1, putR_u, eq_self, Nat.reduceLT, Nat.reduceLeDiff, Nat.reduceAdd, Nat.reduceEqDiff, vk_i, vk_l, vk_r, vk_n, vk_0, vk_1, if_true, if_false, not_true_eq_false, not_false_eq_true, false_and, and_false, ne_eq, true_or, or_true, ite_not, reduceCtorEq, pr_73, pr_74, pr_75, pr_76, pr_77, pr_78, pr_79, pr_80, pr_81, pr_82, pr_83, pr_84, pr_85, pr_86, pr_87, pr_88, pr_89, pr_90, pr_91, pr_92, pr_93, pr_94, pr_95, pr_96, pr_97, pr_98, pr_99, pr_100, pr_101, pr_102, pr_103, pr_104, pr_105, pr_106, pr_107, pr_108, pr_109, pr_110, pr_111, pr_112, pr_113, pr_114, pr_115, pr_116, pr_117, pr_118, pr_119, pr_120, pr_121, pr_122, pr_123, pr_124, pr_125, pr_126, pr_127, pr_128, pr_129, pr_130, pr_131, pr_132, pr_133, pr_134, pr_135, pr_136, pr_137, pr_138, pr_139, pr_140, pr_141, pr_142, pr_143, pr_144, pr_145, rf_0, rf_1, hI_1, rf_2, hI_2, rf_3, hI_3, rf_4, hI_4, rf_5, hI_5, rf_6, hI_6, rf_7, hI_7, rf_8, rf_9, rf_10, rf_11, hI_11, rf_12, rf_13, rf_14, rf_15, rf_16, hI_16, rf_17, rf_18, rf_19, rf_20, rf_21, rf_22, rf_23, hI_23, rf_24, rf_25, rf_26, rf_27, rf_28, hI_28, rf_29, rf_30, hI_30, rf_31, rf_32, hI_32, rf_33, hI_33, rf_34, rf_35, rf_36, rf_37, rf_38, rf_39, rf_40, rf_41, hI_41, rf_42, rf_43, rf_44, rf_45, rf_46, rf_47, rf_48, rf_49, rf_50, hI_50, rf_51, rf_52, rf_53, rf_54, rf_55, rf_56, rf_57, hI_57, rf_58, rf_59, rf_60, rf_61, rf_62, rf_63, rf_64, rf_65, rf_66, rf_67, rf_68, rf_69, rf_70, rf_71, rf_72, rf_73, rf_74, rf_75, hI_75, rf_76, rf_77, rf_78, hI_78, rf_79, rf_80, rf_81, hI_81, rf_82, hI_82, rf_83, rf_84, hI_84, rf_85, rf_86, rf_87, hI_87, rf_88, hI_88, rf_89, hI_89, rf_90, hI_90, rf_91, rf_92, rf_93, rf_94, hI_94, rf_95, hI_95, rf_96, rf_97, rf_98, rf_99, rf_100, hset_W, hA_74, hL_75, hA_76, hL_77, hA_78, hL_79, hA_80, hL_81, hA_82, hL_83, hA_84, hA_85, hA_86, hL_87, hA_88, hA_89, hA_90, hA_91, hA_92, hA_93, hA_94, hA_95, hA_96, hA_97, hA_98, hA_99, hA_100, hA_101, hA_102, hA_103, hA_104, hA_105, hL_106, hA_107, hA_108, hA_109, hA_110, hA_111, hA_112, hA_113, hA_114, hA_115, hA_116, hA_117, hA_118, hA_119, hA_120, hA_121, hA_122, hA_123, hA_124, hA_125, hA_126, hA_127, hA_128, hA_129, hA_130, hA_131, hA_132, hA_133, hA_134, hA_135, hA_136, hA_137, hA_138, hA_139, hA_140, hA_141, hA_142, hA_143, hA_144, hA_145, ni_ixL, ni_clL, ni_add, ni_mul, ni_lt, ni_le, ni_eq, ni_clamp, ni_ix, ni_lt0, ni_0le, ni_ltL, ni_Llt, ni_leL, ni_Lle, ni_eqL, ni_addL, ni_Ladd, ni_mulL, ni_Lmul, ni_subL, ni_sub, ni_Lsub, le_t, le_f, lt_t, lt_f, eq_f, il_lt, il_l0, il_g0, il_l1, il_g1, il_l2, il_g2, il_l3, il_g3, il_l4, il_g4, il_l5, il_g5, il_l7, il_g7, il_l8, il_g8, il_l9, il_g9, il_l10, il_g10, il_l15, il_g15, il_l20, il_g20, il_l23, il_g23, il_l24, il_g24, il_l60, il_g60, il_l100, il_g100, il_l999, il_g999, il_l1000, il_g1000, r_in, putR_lt hh, sA_1, sA_s, i1_0, bs_0, bs_1, im_lt, im_ge, im_eq, ni_em, c0', c1', c2', c3', c4', g20, e10, e, i35, i34, ef, e2, e3, e4, e5]
end
