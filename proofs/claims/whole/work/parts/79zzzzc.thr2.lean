section
variable {K : Nat → pcell} {tb : Nat} {g g' g0 g1 g2 : gS} {r r' r0 v v' R ra s' s r1 r2 : rS} {x x' x0 x1 x2 xb : xS} {h h' h0 h1 : pheap} {d : Nat} {Q : Option Value → pheap → Prop} {a n k m rc b L n0 p q j t c c2 c3 no A ce ce0 Dn N i ar sa o sv mm va ta D ou w Bn sz Z : Nat} {F fs sr V O1 B1 S1 G1 : Nat → Int32} {l l' lF : List Nat} {z e w0 w1 w2 w3 w4 : Int32} {os fc as nd : Nat → Nat} {u : Int64} {P G : Nat → Prop}
theorem sc_ga : SC (gaR (icR r O1 B1 S1 G1) j Z) (icR r (upN O1 j 0) (upN B1 j 0) S1 G1) := by
  refine ⟨fun k q0 q1 q2 q3 q4 q5 q6 q7 => ?_, rfl, fun a q0 q1 q2 q3 q4 q5 q6 q7 q8 q9 q10 => ?_, fun _ _ => rfl, fun _ _ => rfl, fun _ _ => rfl, fun _ _ => ⟨rfl, rfl, fun _ _ => rfl⟩⟩
  · show upN (upN r.1 88 _) 89 _ k = r.1 k
    rw [upN_n _ _ q6, upN_n _ _ q5]
  · show upN (upN (upN (upN (upN (upN r.2.2.1 143 O1) 144 B1) 142 S1) 141 G1) 143 (upN O1 j 0)) 144 (upN B1 j 0) a = upN (upN (upN (upN r.2.2.1 143 (upN O1 j 0)) 144 (upN B1 j 0)) 142 S1) 141 G1 a
    by_cases y1 : a = 143
    · subst y1; rfl
    by_cases y2 : a = 144
    · subst y2; rfl
    by_cases y3 : a = 142
    · subst y3; rfl
    by_cases y4 : a = 141
    · subst y4; rfl
    rw [upN_n _ _ y2, upN_n _ _ y1, upN_n _ _ y4, upN_n _ _ y3, upN_n _ _ y2, upN_n _ _ y1, upN_n _ _ y4, upN_n _ _ y3, upN_n _ _ y2, upN_n _ _ y1]
/-- a message is whole: what comes of it -/
def TW (K : Nat → pcell) (tb : Nat) (g : gS) (r : rS) (x : xS) (h : pheap) (w c b Z : Nat) (O1 B1 S1 G1 : Nat → Int32) : Prop := ∃ g' r' x' h', World K (tb + 1000) g' r' x' h' ∧ (h.1 ≤ h'.1 ∧ h'.1 ≤ h.1 + 750 ∧ h'.2.1 ≤ h.2.1 + 11400) ∧
    (w = 0 → (∀ d r0 Q, Go (d + 43) 138 0 [.ref 5, .ref ((g.1 6) c), .ref b, mk0] [] (putR r0 (putX x h)) Q = Q none (putR r0 (putX x' h'))) ∧ (∀ d (H : pheap) Q, 146 ≤ H.1 → Go (d + 9) 269 0 [.ref 73, .int (nI c), mk0, mk0, mk0, mk0, mk0, mk0, mk0] [] (putR (icR r O1 B1 S1 G1) H) Q = Q none (putR r' H))) ∧
    (w = 1 → (∀ d r0 Q, Go (d + 43) 150 0 [.ref 5, .ref ((g.1 6) c), .ref b, mk0, mk0, mk0, mk0, mk0, mk0] [] (putR r0 (putX x h)) Q = Q none (putR r0 (putX x' h'))) ∧ (∀ d (H : pheap) Q, 146 ≤ H.1 → Go (d + 9) 275 0 [.ref 73, .int (nI c), mk0, mk0, mk0, mk0, mk0, mk0] [] (putR (icR r O1 B1 S1 G1) H) Q = Q none (putR r' H)))
theorem thr_w (hw : World K tb g (icR r (upN O1 (60 * w + c) 0) (upN B1 (60 * w + c) 0) S1 G1) x h) (htb : tb ≤ 1000000) (hwl : w < 2) (hc : c < (g.1 0 5)) (hl : (g.2.2.2.2.2 14) c ≠ (g.2.2.2.2.2 15) c) (hic : (g.2.2.2.2.2 23) (60 * w + c) = b) (hb : b ≠ 0) (hof : O1 (60 * w + c) = nI m) (hm10 : m ≤ 10) (hm1 : 1 ≤ m) (hms : Msgs s h b (60 * w + c) m Z F S1 G1) (hF : (Z = zM g w c ∧ F = fM r w c ∧ (w = 1 → (g.2.2.2.2.2 34) c ≠ 0)) ∨ (w = 1 ∧ Z = 1 ∧ F 0 = 2)) : TW K tb g r x h w c b Z O1 B1 S1 G1 := by
  have n60 := (w_nc hw).2.1
  obtain ⟨s1, ⟨sz, s2, s3⟩, s4, s5, s6, s7, s8, s9, s10⟩ := hms
  have hj' : 60 * w + c < 120 ∧ (g.2.2.2.2.2 23) (60 * w + c) ≠ 0 := ⟨by omega, by rw [hic]; exact hb⟩
  obtain ⟨q1, q2, -⟩ := hw.1.2.1.1 _ _ (ref_iby (x2 := x.2) hj')
  obtain ⟨q3, q4, -⟩ := hw.1.2.1.1 _ _ (ref_inc (x2 := x.2) hj')
  rw [hic] at q1 q2 q3 q4
  obtain ⟨u1, u2, u3, u4, -⟩ := w_cal hw c hc
  have hB : ∀ k, k < Z → isB (F k) := fun k hk => by
    rcases hF with ⟨y1, y2, y3⟩ | ⟨y1, y2, y3⟩
    · rw [y2]
      by_cases e : w = 0
      · have : zM g w c = (g.2.2.2.2.2 33) c := if_pos e
        have e2 : fM r w c k = (r.2.2.1 123) (240 * c + k) := if_pos e
        rw [e2]
        exact (hw.2.2.2.2.1 c hc hl).2.1 k (by omega)
      · have : zM g w c = (g.2.2.2.2.2 34) c := if_neg e
        have e2 : fM r w c k = (r.2.2.1 127) (240 * c + k) := if_neg e
        rw [e2]
        exact (hw.2.2.2.2.2.1 c hc (y3 (by omega))).2.1 k (by omega)
    · rw [show k = 0 by omega, y3]
      exact ⟨2, by omega, rfl⟩
  have hrd : RD h b Z F := ⟨q3, q2, s5, s6, s7, s8, s9, s1, fun k hk => ⟨s10 k hk, hB k hk⟩⟩
  have wG : World K tb g (gaR (icR r O1 B1 S1 G1) (60 * w + c) Z) x h := w_sc hw sc_ga
  have hmr : MR (gaR (icR r O1 B1 S1 G1) (60 * w + c) Z) (240 * (60 * w + c)) Z F 0 := ⟨rfl, rfl, s4, by omega⟩
  have hga := fun d (H : pheap) Q (hH : 146 ≤ H.1) => r_gather (d := d) (Q := Q) (s := icR r O1 B1 S1 G1) (Z := Z) hH hwl (show c < 60 by omega) hof hm10 hm1 s2 s3
  have e1 : (icR r O1 B1 S1 G1).2.2.1 117 c = nI ((g.2.2.2.2.2 15) c) := u3
  have e2 : (icR r O1 B1 S1 G1).2.2.1 114 c = nI ((g.2.2.2.2.2 14) c) := u1
  by_cases e : w = 0
  · subst e
    have hF0 : Z = (g.2.2.2.2.2 33) c ∧ F = fun k => (r.2.2.1 123) (240 * c + k) := by
      rcases hF with ⟨y1, y2, y3⟩ | ⟨y1, -⟩
      · exact ⟨y1, y2⟩
      · exact absurd y1 (by decide)
    have hic0 : (g.2.2.2.2.2 23) c = b := by
      rw [← hic]
      exact congrArg _ (by omega)
    obtain ⟨g', r', x', h', z1, z2, z3, z4⟩ := treq_ok wG htb hc hl hic0 hb hrd hmr hF0.1 hF0.2
    refine ⟨g', r', x', h', z1, z2, fun _ => ⟨z3, fun d H Q hH => ?_⟩, fun y => absurd y (by decide)⟩
    have hh := hH
    have f1 := fun Q => hga (d + 6) H Q hH
    have f1' : ∀ Q, Go (d + 6 + 2) 270 0 [.ref 73, .int 0, .int (nI c), mk0] [] (putR (icR r O1 B1 S1 G1) H) Q = Q none (putR (gaR (icR r O1 B1 S1 G1) (60 * 0 + c) Z) H) := f1
    have f2 := fun V3 V4 V5 V6 V7 V8 => z4 d H Q V3 V4 V5 V6 V7 V8 hH
    generalize gaR (icR r O1 B1 S1 G1) (60 * 0 + c) Z = rG at *
    generalize icR r O1 B1 S1 G1 = rI at *
    simp (disch := first | exact c1_i _ | exact c1_r _ | exact c1_n | exact c1_m | omega | assumption | (apply ac_l; omega) | (apply ac_r; omega) | decide | exact Or.inl rfl) only [e_269_0, e_269_0n, e_269_1, e_269_4, e_269_5, e_269_6, e_269_7, e_269_7n, e_269_8, e_269_9, e_269_10, Option.toList_some, Option.toList_none, List.cons_append, List.nil_append, catS_cons, catS_nil, cat_int, cat_long, cat_ref, cat_null, c1_i, c1_r, c1_n, c1_m, true_and, and_true, and_self, putR_1, putR_u, eq_self, Nat.reduceLT, Nat.reduceLeDiff, Nat.reduceAdd, Nat.reduceEqDiff, vk_i, vk_l, vk_r, vk_n, vk_0, vk_1, if_true, if_false, not_true_eq_false, not_false_eq_true, false_and, and_false, ne_eq, true_or, or_true, ite_not, reduceCtorEq, pr_73, pr_74, pr_75, pr_76, pr_77, pr_78, pr_79, pr_80, pr_81, pr_82, pr_83, pr_84, pr_85, pr_86, pr_87, pr_88, pr_89, pr_90, pr_91, pr_92, pr_93, pr_94, pr_95, pr_96, pr_97, pr_98, pr_99, pr_100, pr_101, pr_102, pr_103, pr_104, pr_105, pr_106, pr_107, pr_108, pr_109, pr_110, pr_111, pr_112, pr_113, pr_114, pr_115, pr_116, pr_117, pr_118, pr_119, pr_120, pr_121, pr_122, pr_123, pr_124, pr_125, pr_126, pr_127, pr_128, pr_129, pr_130, pr_131, pr_132, pr_133, pr_134, pr_135, pr_136, pr_137, pr_138, pr_139, pr_140, pr_141, pr_142, pr_143, pr_144, pr_145, rf_0, rf_1, hI_1, rf_2, hI_2, rf_3, hI_3, rf_4, hI_4, rf_5, hI_5, rf_6, hI_6, rf_7, hI_7, rf_8, rf_9, rf_10, rf_11, hI_11, rf_12, rf_13, rf_14, rf_15, rf_16, hI_16, rf_17, rf_18, rf_19, rf_20, rf_21, rf_22, rf_23, hI_23, rf_24, rf_25, rf_26, rf_27, rf_28, hI_28, rf_29, rf_30, hI_30, rf_31, rf_32, hI_32, rf_33, hI_33, rf_34, rf_35, rf_36, rf_37, rf_38, rf_39, rf_40, rf_41, hI_41, rf_42, rf_43, rf_44, rf_45, rf_46, rf_47, rf_48, rf_49, rf_50, hI_50, rf_51, rf_52, rf_53, rf_54, rf_55, rf_56, rf_57, hI_57, rf_58, rf_59, rf_60, rf_61, rf_62, rf_63, rf_64, rf_65, rf_66, rf_67, rf_68, rf_69, rf_70, rf_71, rf_72, rf_73, rf_74, rf_75, hI_75, rf_76, rf_77, rf_78, hI_78, rf_79, rf_80, rf_81, hI_81, rf_82, hI_82, rf_83, rf_84, hI_84, rf_85, rf_86, rf_87, hI_87, rf_88, hI_88, rf_89, hI_89, rf_90, hI_90, rf_91, rf_92, rf_93, rf_94, hI_94, rf_95, hI_95, rf_96, rf_97, rf_98, rf_99, rf_100, hset_W, hA_74, hL_75, hA_76, hL_77, hA_78, hL_79, hA_80, hL_81, hA_82, hL_83, hA_84, hA_85, hA_86, hL_87, hA_88, hA_89, hA_90, hA_91, hA_92, hA_93, hA_94, hA_95, hA_96, hA_97, hA_98, hA_99, hA_100, hA_101, hA_102, hA_103, hA_104, hA_105, hL_106, hA_107, hA_108, hA_109, hA_110, hA_111, hA_112, hA_113, hA_114, hA_115, hA_116, hA_117, hA_118, hA_119, hA_120, hA_121, hA_122, hA_123, hA_124, hA_125, hA_126, hA_127, hA_128, hA_129, hA_130, hA_131, hA_132, hA_133, hA_134, hA_135, hA_136, hA_137, hA_138, hA_139, hA_140, hA_141, hA_142, hA_143, hA_144, hA_145, ni_ixL, ni_clL, ni_add, ni_mul, ni_lt, ni_le, ni_eq, ni_clamp, ni_ix, ni_lt0, ni_0le, ni_ltL, ni_Llt, ni_leL, ni_Lle, ni_eqL, ni_addL, ni_Ladd, ni_mulL, ni_Lmul, ni_subL, ni_sub, ni_Lsub, le_t, le_f, lt_t, lt_f, eq_f, il_lt, il_l0, il_g0, il_l1, il_g1, il_l2, il_g2, il_l3, il_g3, il_l4, il_g4, il_l5, il_g5, il_l7, il_g7, il_l8, il_g8, il_l9, il_g9, il_l10, il_g10, il_l15, il_g15, il_l20, il_g20, il_l23, il_g23, il_l24, il_g24, il_l60, il_g60, il_l100, il_g100, il_l999, il_g999, il_l1000, il_g1000, r_in, putR_lt hh, sA_1, sA_s, i1_0, bs_0, bs_1, im_lt, im_ge, im_eq, ni_em, e1, f1', f2]
  · have e' : w = 1 := by omega
    subst e'
    have hF1 : (Z = (g.2.2.2.2.2 34) c ∧ F = (fun k => (r.2.2.1 127) (240 * c + k)) ∧ (g.2.2.2.2.2 34) c ≠ 0) ∨ (Z = 1 ∧ F 0 = 2) := by
      rcases hF with ⟨y1, y2, y3⟩ | ⟨-, y1, y2⟩
      · exact Or.inl ⟨y1, y2, y3 rfl⟩
      · exact Or.inr ⟨y1, y2⟩
    have hic1 : (g.2.2.2.2.2 23) (60 + c) = b := hic
    obtain ⟨g', r', x', h', z1, ⟨z2, z2', z2''⟩, z3, z4⟩ := tans_ok wG htb hc hl hic1 hb hrd hmr hF1
    refine ⟨g', r', x', h', z1, ⟨z2, by omega, by omega⟩, fun y => absurd y (by decide), fun _ => ⟨z3, fun d H Q hH => ?_⟩⟩
    have hh := hH
    have f1 := fun Q => hga (d + 6) H Q hH
    have f1' : ∀ Q, Go (d + 6 + 2) 270 0 [.ref 73, .int 1, .int (nI c), mk0] [] (putR (icR r O1 B1 S1 G1) H) Q = Q none (putR (gaR (icR r O1 B1 S1 G1) (60 * 1 + c) Z) H) := f1
    have f2 := fun V3 V4 V5 V6 V7 => z4 d H Q V3 V4 V5 V6 V7 hH
    generalize gaR (icR r O1 B1 S1 G1) (60 * 1 + c) Z = rG at *
    generalize icR r O1 B1 S1 G1 = rI at *
    simp (disch := first | exact c1_i _ | exact c1_r _ | exact c1_n | exact c1_m | omega | assumption | (apply ac_l; omega) | (apply ac_r; omega) | decide | exact Or.inl rfl) only [e_275_0, e_275_0n, e_275_1, e_275_4, e_275_5, e_275_6, e_275_7, e_275_7n, e_275_8, e_275_9, e_275_10, Option.toList_some, Option.toList_none, List.cons_append, List.nil_append, catS_cons, catS_nil, cat_int, cat_long, cat_ref, cat_null, c1_i, c1_r, c1_n, c1_m, true_and, and_true, and_self, putR_1, putR_u, eq_self, Nat.reduceLT, Nat.reduceLeDiff, Nat.reduceAdd, Nat.reduceEqDiff, vk_i, vk_l, vk_r, vk_n, vk_0, vk_1, if_true, if_false, not_true_eq_false, not_false_eq_true, false_and, and_false, ne_eq, true_or, or_true, ite_not, reduceCtorEq, pr_73, pr_74, pr_75, pr_76, pr_77, pr_78, pr_79, pr_80, pr_81, pr_82, pr_83, pr_84, pr_85, pr_86, pr_87, pr_88, pr_89, pr_90, pr_91, pr_92, pr_93, pr_94, pr_95, pr_96, pr_97, pr_98, pr_99, pr_100, pr_101, pr_102, pr_103, pr_104, pr_105, pr_106, pr_107, pr_108, pr_109, pr_110, pr_111, pr_112, pr_113, pr_114, pr_115, pr_116, pr_117, pr_118, pr_119, pr_120, pr_121, pr_122, pr_123, pr_124, pr_125, pr_126, pr_127, pr_128, pr_129, pr_130, pr_131, pr_132, pr_133, pr_134, pr_135, pr_136, pr_137, pr_138, pr_139, pr_140, pr_141, pr_142, pr_143, pr_144, pr_145, rf_0, rf_1, hI_1, rf_2, hI_2, rf_3, hI_3, rf_4, hI_4, rf_5, hI_5, rf_6, hI_6, rf_7, hI_7, rf_8, rf_9, rf_10, rf_11, hI_11, rf_12, rf_13, rf_14, rf_15, rf_16, hI_16, rf_17, rf_18, rf_19, rf_20, rf_21, rf_22, rf_23, hI_23, rf_24, rf_25, rf_26, rf_27, rf_28, hI_28, rf_29, rf_30, hI_30, rf_31, rf_32, hI_32, rf_33, hI_33, rf_34, rf_35, rf_36, rf_37, rf_38, rf_39, rf_40, rf_41, hI_41, rf_42, rf_43, rf_44, rf_45, rf_46, rf_47, rf_48, rf_49, rf_50, hI_50, rf_51, rf_52, rf_53, rf_54, rf_55, rf_56, rf_57, hI_57, rf_58, rf_59, rf_60, rf_61, rf_62, rf_63, rf_64, rf_65, rf_66, rf_67, rf_68, rf_69, rf_70, rf_71, rf_72, rf_73, rf_74, rf_75, hI_75, rf_76, rf_77, rf_78, hI_78, rf_79, rf_80, rf_81, hI_81, rf_82, hI_82, rf_83, rf_84, hI_84, rf_85, rf_86, rf_87, hI_87, rf_88, hI_88, rf_89, hI_89, rf_90, hI_90, rf_91, rf_92, rf_93, rf_94, hI_94, rf_95, hI_95, rf_96, rf_97, rf_98, rf_99, rf_100, hset_W, hA_74, hL_75, hA_76, hL_77, hA_78, hL_79, hA_80, hL_81, hA_82, hL_83, hA_84, hA_85, hA_86, hL_87, hA_88, hA_89, hA_90, hA_91, hA_92, hA_93, hA_94, hA_95, hA_96, hA_97, hA_98, hA_99, hA_100, hA_101, hA_102, hA_103, hA_104, hA_105, hL_106, hA_107, hA_108, hA_109, hA_110, hA_111, hA_112, hA_113, hA_114, hA_115, hA_116, hA_117, hA_118, hA_119, hA_120, hA_121, hA_122, hA_123, hA_124, hA_125, hA_126, hA_127, hA_128, hA_129, hA_130, hA_131, hA_132, hA_133, hA_134, hA_135, hA_136, hA_137, hA_138, hA_139, hA_140, hA_141, hA_142, hA_143, hA_144, hA_145, ni_ixL, ni_clL, ni_add, ni_mul, ni_lt, ni_le, ni_eq, ni_clamp, ni_ix, ni_lt0, ni_0le, ni_ltL, ni_Llt, ni_leL, ni_Lle, ni_eqL, ni_addL, ni_Ladd, ni_mulL, ni_Lmul, ni_subL, ni_sub, ni_Lsub, le_t, le_f, lt_t, lt_f, eq_f, il_lt, il_l0, il_g0, il_l1, il_g1, il_l2, il_g2, il_l3, il_g3, il_l4, il_g4, il_l5, il_g5, il_l7, il_g7, il_l8, il_g8, il_l9, il_g9, il_l10, il_g10, il_l15, il_g15, il_l20, il_g20, il_l23, il_g23, il_l24, il_g24, il_l60, il_g60, il_l100, il_g100, il_l999, il_g999, il_l1000, il_g1000, r_in, putR_lt hh, sA_1, sA_s, i1_0, bs_0, bs_1, im_lt, im_ge, im_eq, ni_em, e2, f1', f2]
end
