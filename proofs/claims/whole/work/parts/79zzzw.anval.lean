section
variable {K : Nat → pcell} {tb : Nat} {g g' g0 g1 g2 : gS} {r r' r0 v v' R ra s' s : rS} {x x' x0 x1 xb : xS} {h h' h0 h1 : pheap} {d : Nat} {Q : Option Value → pheap → Prop} {a n k m rc b L n0 p q j t c c2 c3 no A ce ce0 Dn N i ar sa o sv mm va ta D ou : Nat} {F fs sr w V : Nat → Int32} {l l' lF : List Nat} {z e w0 w1 w2 w3 w4 : Int32} {os fc as nd : Nat → Nat} {u : Int64} {P G : Nat → Prop}
theorem x_as (hw : World K tb g r x h) (hc : c < (g.1 0 5)) : Go (d + 2) 112 0 [.ref 5, .ref ((g.1 6) c), mk0] [] (putR r0 (putX x h)) Q = Q (some (.int (eSort g r c))) (putR r0 (putX x h)) := by
  by_cases hob : (g.2.2.2.2.2 17) c = 0
  · have hh := sim_146 hw.1
    obtain ⟨a1, a2, ⟨t, q0, q1, q2, q3, q4, q5, q6, q7, q8, q9, q10, q11, q12, q13, q14, q15, q16⟩⟩ := s_cal hw.1 hc
    rw [if_pos hob, pv_0] at q3
    have e : eSort g r c = 0 := if_pos hob
    rw [e]
    simp (disch := first | exact c1_i _ | exact c1_r _ | exact c1_n | exact c1_m | omega | assumption | (apply ac_l; omega) | (apply ac_r; omega) | decide | exact Or.inl rfl) only [e_112_0, e_112_0n, e_112_1, e_112_4n, e_112_4, e_112_7, e_112_8, e_112_11, e_112_11n, e_112_12, e_112_15, e_112_15n, e_112_16, e_112_19, e_112_22, e_112_22n, e_112_23, e_112_26, e_112_29, e_112_30, e_112_31, e_112_32, e_112_35, e_112_36, e_112_39, e_112_39n, e_112_40, e_112_43, e_112_46, e_112_47, e_112_48, Option.toList_some, Option.toList_none, List.cons_append, List.nil_append, catS_cons, catS_nil, cat_int, cat_long, cat_ref, cat_null, c1_i, c1_r, c1_n, c1_m, true_and, and_true, and_self, putR_1, putR_u, eq_self, Nat.reduceLT, Nat.reduceLeDiff, Nat.reduceAdd, Nat.reduceEqDiff, vk_i, vk_l, vk_r, vk_n, vk_0, vk_1, if_true, if_false, not_true_eq_false, not_false_eq_true, false_and, and_false, ne_eq, true_or, or_true, ite_not, reduceCtorEq, putX_1, putX_u, putX_hi, hset_Xhi, px_5, xf_5_0, xf_5_1, xI_5_1, xf_5_2, xR_0, xf_5_3, xI_5_3, xf_5_4, xI_5_4, xf_5_5, xf_5_6, xI_5_6, xf_5_7, xf_5_8, xf_5_9, xf_5_10, xf_5_11, xf_5_12, xf_5_13, xf_5_14, xf_5_15, xI_5_15, px_6, xA_6, px_18, xA_18, px_19, xf_19_0, xI_19_0, xf_19_1, xR_1, xf_19_2, xI_19_2, px_20, xf_20_0, xI_20_0, xf_20_1, xR_2, xf_20_2, xI_20_2, px_21, xf_21_0, xI_21_0, xf_21_1, xR_3, xf_21_2, xI_21_2, px_22, xf_22_0, xI_22_0, xf_22_1, xR_4, xf_22_2, xI_22_2, px_23, xf_23_0, xI_23_0, xf_23_1, xR_5, xf_23_2, xI_23_2, px_24, xf_24_0, xI_24_0, xf_24_1, xR_6, xf_24_2, xI_24_2, px_25, xf_25_0, xI_25_0, xf_25_1, xI_25_1, xf_25_2, xf_25_3, xI_25_3, xf_25_4, xf_25_5, xf_25_6, px_26, xA_26, px_27, px_28, xA_28, px_29, xA_29, px_30, xA_30, px_31, xA_31, px_32, xA_32, px_33, xA_33, px_34, xA_34, px_35, xA_35, px_36, xA_36, px_37, xA_37, px_38, xA_38, px_39, xA_39, px_40, xA_40, px_41, xA_41, px_42, xA_42, px_43, xA_43, px_44, xA_44, px_45, xA_45, px_46, xA_46, px_47, xA_47, px_48, xA_48, px_49, xA_49, px_50, xA_50, px_51, xA_51, px_52, xA_52, px_53, xA_53, px_54, xA_54, px_55, xA_55, px_56, xA_56, px_57, xA_57, px_58, xA_58, px_59, xA_59, px_60, xA_60, px_61, xA_61, px_62, xA_62, px_63, xA_63, px_64, xA_64, px_65, xA_65, px_66, xA_66, px_67, xA_67, px_68, xA_68, px_69, xA_69, px_70, xf_70_0, xI_70_0, xf_70_1, xI_70_1, xf_70_2, xI_70_2, xf_70_3, xf_70_4, px_71, xA_71, px_72, xA_72, ni_ixL, ni_clL, ni_add, ni_mul, ni_lt, ni_le, ni_eq, ni_clamp, ni_ix, ni_lt0, ni_0le, ni_ltL, ni_Llt, ni_leL, ni_Lle, ni_eqL, ni_addL, ni_Ladd, ni_mulL, ni_Lmul, ni_subL, ni_sub, ni_Lsub, le_t, le_f, lt_t, lt_f, eq_f, il_lt, il_l0, il_g0, il_l1, il_g1, il_l2, il_g2, il_l3, il_g3, il_l4, il_g4, il_l5, il_g5, il_l7, il_g7, il_l8, il_g8, il_l9, il_g9, il_l10, il_g10, il_l15, il_g15, il_l20, il_g20, il_l23, il_g23, il_l24, il_g24, il_l60, il_g60, il_l100, il_g100, il_l999, il_g999, il_l1000, il_g1000, putR_lo, hset_lo, putR_lt hh, rd_hi, wr_hi, hs_1, hs_s, hs_o, uv_s, uv_o, pv_0, pv_n, i1_0, bs_0, bs_1, im_lt, im_ge, im_eq, ni_em, t, q3]
  · obtain ⟨o, ho⟩ : ∃ o, (g.2.2.2.2.2 17) c = o + 1 := ⟨(g.2.2.2.2.2 17) c - 1, by omega⟩
    exact x_asort hw hc ho
theorem r_as (hw : World K tb g r x h') (hh : 146 ≤ h.1) (hc : c < (g.1 0 5)) (e1 : (s.2.2.1 115) = (r.2.2.1 115)) (e2 : (s.2.2.1 116) = (r.2.2.1 116)) (e3 : (s.2.2.1 101) = (r.2.2.1 101)) (e4 : (s.2.2.1 84) = (r.2.2.1 84)) : Go (d + 2) 240 0 [.ref 73, .int (nI c)] [] (putR s h) Q = Q (some (.int (eSort g r c))) (putR s h) := by
  obtain ⟨n1, n2, n3⟩ := w_nc hw
  obtain ⟨o1, o2, -⟩ := w_no hw
  obtain ⟨sn1, sn2⟩ := w_sn hw
  obtain ⟨u1, u2, u3, u4, u5, u6, u7, u8, u9, -⟩ := w_cal hw c hc
  rw [← e1] at u5
  rw [← e2] at u7
  unfold eSort
  by_cases e : (g.2.2.2.2.2 17) c = 0
  · rw [if_pos e] at u5 ⊢
    simp (disch := first | exact c1_i _ | exact c1_r _ | exact c1_n | exact c1_m | omega | assumption | (apply ac_l; omega) | (apply ac_r; omega) | decide | exact Or.inl rfl) only [e_240_0, e_240_0n, e_240_1, e_240_4, e_240_5, e_240_6, e_240_7, e_240_10, e_240_11, e_240_14, e_240_14n, e_240_15, e_240_18, e_240_18n, e_240_19, e_240_20, e_240_23, e_240_24, Option.toList_some, Option.toList_none, List.cons_append, List.nil_append, catS_cons, catS_nil, cat_int, cat_long, cat_ref, cat_null, c1_i, c1_r, c1_n, c1_m, true_and, and_true, and_self, putR_1, putR_u, eq_self, Nat.reduceLT, Nat.reduceLeDiff, Nat.reduceAdd, Nat.reduceEqDiff, vk_i, vk_l, vk_r, vk_n, vk_0, vk_1, if_true, if_false, not_true_eq_false, not_false_eq_true, false_and, and_false, ne_eq, true_or, or_true, ite_not, reduceCtorEq, pr_73, pr_74, pr_75, pr_76, pr_77, pr_78, pr_79, pr_80, pr_81, pr_82, pr_83, pr_84, pr_85, pr_86, pr_87, pr_88, pr_89, pr_90, pr_91, pr_92, pr_93, pr_94, pr_95, pr_96, pr_97, pr_98, pr_99, pr_100, pr_101, pr_102, pr_103, pr_104, pr_105, pr_106, pr_107, pr_108, pr_109, pr_110, pr_111, pr_112, pr_113, pr_114, pr_115, pr_116, pr_117, pr_118, pr_119, pr_120, pr_121, pr_122, pr_123, pr_124, pr_125, pr_126, pr_127, pr_128, pr_129, pr_130, pr_131, pr_132, pr_133, pr_134, pr_135, pr_136, pr_137, pr_138, pr_139, pr_140, pr_141, pr_142, pr_143, pr_144, pr_145, rf_0, rf_1, hI_1, rf_2, hI_2, rf_3, hI_3, rf_4, hI_4, rf_5, hI_5, rf_6, hI_6, rf_7, hI_7, rf_8, rf_9, rf_10, rf_11, hI_11, rf_12, rf_13, rf_14, rf_15, rf_16, hI_16, rf_17, rf_18, rf_19, rf_20, rf_21, rf_22, rf_23, hI_23, rf_24, rf_25, rf_26, rf_27, rf_28, hI_28, rf_29, rf_30, hI_30, rf_31, rf_32, hI_32, rf_33, hI_33, rf_34, rf_35, rf_36, rf_37, rf_38, rf_39, rf_40, rf_41, hI_41, rf_42, rf_43, rf_44, rf_45, rf_46, rf_47, rf_48, rf_49, rf_50, hI_50, rf_51, rf_52, rf_53, rf_54, rf_55, rf_56, rf_57, hI_57, rf_58, rf_59, rf_60, rf_61, rf_62, rf_63, rf_64, rf_65, rf_66, rf_67, rf_68, rf_69, rf_70, rf_71, rf_72, rf_73, rf_74, rf_75, hI_75, rf_76, rf_77, rf_78, hI_78, rf_79, rf_80, rf_81, hI_81, rf_82, hI_82, rf_83, rf_84, hI_84, rf_85, rf_86, rf_87, hI_87, rf_88, hI_88, rf_89, hI_89, rf_90, hI_90, rf_91, rf_92, rf_93, rf_94, hI_94, rf_95, hI_95, rf_96, rf_97, rf_98, rf_99, rf_100, hset_W, hA_74, hL_75, hA_76, hL_77, hA_78, hL_79, hA_80, hL_81, hA_82, hL_83, hA_84, hA_85, hA_86, hL_87, hA_88, hA_89, hA_90, hA_91, hA_92, hA_93, hA_94, hA_95, hA_96, hA_97, hA_98, hA_99, hA_100, hA_101, hA_102, hA_103, hA_104, hA_105, hL_106, hA_107, hA_108, hA_109, hA_110, hA_111, hA_112, hA_113, hA_114, hA_115, hA_116, hA_117, hA_118, hA_119, hA_120, hA_121, hA_122, hA_123, hA_124, hA_125, hA_126, hA_127, hA_128, hA_129, hA_130, hA_131, hA_132, hA_133, hA_134, hA_135, hA_136, hA_137, hA_138, hA_139, hA_140, hA_141, hA_142, hA_143, hA_144, hA_145, ni_ixL, ni_clL, ni_add, ni_mul, ni_lt, ni_le, ni_eq, ni_clamp, ni_ix, ni_lt0, ni_0le, ni_ltL, ni_Llt, ni_leL, ni_Lle, ni_eqL, ni_addL, ni_Ladd, ni_mulL, ni_Lmul, ni_subL, ni_sub, ni_Lsub, le_t, le_f, lt_t, lt_f, eq_f, il_lt, il_l0, il_g0, il_l1, il_g1, il_l2, il_g2, il_l3, il_g3, il_l4, il_g4, il_l5, il_g5, il_l7, il_g7, il_l8, il_g8, il_l9, il_g9, il_l10, il_g10, il_l15, il_g15, il_l20, il_g20, il_l23, il_g23, il_l24, il_g24, il_l60, il_g60, il_l100, il_g100, il_l999, il_g999, il_l1000, il_g1000, r_in, putR_lt hh, sA_1, sA_s, i1_0, bs_0, bs_1, im_lt, im_ge, im_eq, ni_em, u5]
  · rw [if_neg e] at u5 ⊢
    obtain ⟨-, -, v1, v2, -⟩ := w_obj hw ((g.2.2.2.2.2 17) c - 1) (by omega)
    obtain ⟨w1, w2, -⟩ := (w_book hw).2.2.2.2 _ v2
    have := (u9 e).1
    rw [← e3] at v1
    rw [← e4]
    simp (disch := first | exact c1_i _ | exact c1_r _ | exact c1_n | exact c1_m | omega | assumption | (apply ac_l; omega) | (apply ac_r; omega) | decide | exact Or.inl rfl) only [e_240_0, e_240_0n, e_240_1, e_240_4, e_240_5, e_240_6, e_240_7, e_240_10, e_240_11, e_240_14, e_240_14n, e_240_15, e_240_18, e_240_18n, e_240_19, e_240_20, e_240_23, e_240_24, e_241_0, e_241_2, e_241_2n, e_241_3, e_241_6, e_241_6n, e_241_7, e_241_10, e_241_11, e_241_12, e_241_13, e_241_14, e_241_14n, e_241_15, e_241_18, e_241_19, e_241_20, e_241_21, Option.toList_some, Option.toList_none, List.cons_append, List.nil_append, catS_cons, catS_nil, cat_int, cat_long, cat_ref, cat_null, c1_i, c1_r, c1_n, c1_m, true_and, and_true, and_self, putR_1, putR_u, eq_self, Nat.reduceLT, Nat.reduceLeDiff, Nat.reduceAdd, Nat.reduceEqDiff, vk_i, vk_l, vk_r, vk_n, vk_0, vk_1, if_true, if_false, not_true_eq_false, not_false_eq_true, false_and, and_false, ne_eq, true_or, or_true, ite_not, reduceCtorEq, pr_73, pr_74, pr_75, pr_76, pr_77, pr_78, pr_79, pr_80, pr_81, pr_82, pr_83, pr_84, pr_85, pr_86, pr_87, pr_88, pr_89, pr_90, pr_91, pr_92, pr_93, pr_94, pr_95, pr_96, pr_97, pr_98, pr_99, pr_100, pr_101, pr_102, pr_103, pr_104, pr_105, pr_106, pr_107, pr_108, pr_109, pr_110, pr_111, pr_112, pr_113, pr_114, pr_115, pr_116, pr_117, pr_118, pr_119, pr_120, pr_121, pr_122, pr_123, pr_124, pr_125, pr_126, pr_127, pr_128, pr_129, pr_130, pr_131, pr_132, pr_133, pr_134, pr_135, pr_136, pr_137, pr_138, pr_139, pr_140, pr_141, pr_142, pr_143, pr_144, pr_145, rf_0, rf_1, hI_1, rf_2, hI_2, rf_3, hI_3, rf_4, hI_4, rf_5, hI_5, rf_6, hI_6, rf_7, hI_7, rf_8, rf_9, rf_10, rf_11, hI_11, rf_12, rf_13, rf_14, rf_15, rf_16, hI_16, rf_17, rf_18, rf_19, rf_20, rf_21, rf_22, rf_23, hI_23, rf_24, rf_25, rf_26, rf_27, rf_28, hI_28, rf_29, rf_30, hI_30, rf_31, rf_32, hI_32, rf_33, hI_33, rf_34, rf_35, rf_36, rf_37, rf_38, rf_39, rf_40, rf_41, hI_41, rf_42, rf_43, rf_44, rf_45, rf_46, rf_47, rf_48, rf_49, rf_50, hI_50, rf_51, rf_52, rf_53, rf_54, rf_55, rf_56, rf_57, hI_57, rf_58, rf_59, rf_60, rf_61, rf_62, rf_63, rf_64, rf_65, rf_66, rf_67, rf_68, rf_69, rf_70, rf_71, rf_72, rf_73, rf_74, rf_75, hI_75, rf_76, rf_77, rf_78, hI_78, rf_79, rf_80, rf_81, hI_81, rf_82, hI_82, rf_83, rf_84, hI_84, rf_85, rf_86, rf_87, hI_87, rf_88, hI_88, rf_89, hI_89, rf_90, hI_90, rf_91, rf_92, rf_93, rf_94, hI_94, rf_95, hI_95, rf_96, rf_97, rf_98, rf_99, rf_100, hset_W, hA_74, hL_75, hA_76, hL_77, hA_78, hL_79, hA_80, hL_81, hA_82, hL_83, hA_84, hA_85, hA_86, hL_87, hA_88, hA_89, hA_90, hA_91, hA_92, hA_93, hA_94, hA_95, hA_96, hA_97, hA_98, hA_99, hA_100, hA_101, hA_102, hA_103, hA_104, hA_105, hL_106, hA_107, hA_108, hA_109, hA_110, hA_111, hA_112, hA_113, hA_114, hA_115, hA_116, hA_117, hA_118, hA_119, hA_120, hA_121, hA_122, hA_123, hA_124, hA_125, hA_126, hA_127, hA_128, hA_129, hA_130, hA_131, hA_132, hA_133, hA_134, hA_135, hA_136, hA_137, hA_138, hA_139, hA_140, hA_141, hA_142, hA_143, hA_144, hA_145, ni_ixL, ni_clL, ni_add, ni_mul, ni_lt, ni_le, ni_eq, ni_clamp, ni_ix, ni_lt0, ni_0le, ni_ltL, ni_Llt, ni_leL, ni_Lle, ni_eqL, ni_addL, ni_Ladd, ni_mulL, ni_Lmul, ni_subL, ni_sub, ni_Lsub, le_t, le_f, lt_t, lt_f, eq_f, il_lt, il_l0, il_g0, il_l1, il_g1, il_l2, il_g2, il_l3, il_g3, il_l4, il_g4, il_l5, il_g5, il_l7, il_g7, il_l8, il_g8, il_l9, il_g9, il_l10, il_g10, il_l15, il_g15, il_l20, il_g20, il_l23, il_g23, il_l24, il_g24, il_l60, il_g60, il_l100, il_g100, il_l999, il_g999, il_l1000, il_g1000, r_in, putR_lt hh, sA_1, sA_s, i1_0, bs_0, bs_1, im_lt, im_ge, im_eq, ni_em, u5, u7, v1]
theorem es_srt (hw : World K tb g r x h) (hc : c < (g.1 0 5)) : isSrt (g.2.2.2.2.1 2) (g.2.2.2.2.1 3) (eSort g r c) := by
  by_cases hob : (g.2.2.2.2.2 17) c = 0
  · have e : eSort g r c = 0 := if_pos hob
    rw [e]
    exact Or.inl ⟨0, by omega, rfl⟩
  · obtain ⟨o, ho⟩ : ∃ o, (g.2.2.2.2.2 17) c = o + 1 := ⟨(g.2.2.2.2.2 17) c - 1, by omega⟩
    exact (ca_s hw hc ho).2.1
theorem rel_st (hr : REL P G Dn r v) : REL P G Dn (sA r 118 c z) v := by
  obtain ⟨⟨a1, a2, a3, a4, a5, a6⟩, b, c1, c2⟩ := hr
  refine ⟨⟨a1, a2, fun a q0 q1 q2 q3 q4 q5 q6 q7 q8 q9 q10 q11 q12 => ?_, a4, a5, a6⟩, b, c1, c2⟩
  rw [sA_a _ _ _ q12]
  exact a3 a q0 q1 q2 q3 q4 q5 q6 q7 q8 q9 q10 q11 q12
theorem sc_en (hr : REL (fun c' => ∃ k, k < 1 ∧ c' = 543 + c + k) G Dn r' v) (hst : (r'.2.2.1 118) = upN (v.2.2.1 118) c 1) (htm : v.2.2.1 131 c = nI m) : SC r' (enR (sR v 95 ((r'.2.2.1 95))) c 1 m (upN (v.2.2.2 87) (543 + c) ((r'.2.2.2 87) (543 + c))) (upN (v.2.2.1 88) (543 + c) ((r'.2.2.1 88) (543 + c))) (wrF (v.2.2.1 89) (fun k => (r'.2.2.1 89) (16 * (543 + c) + k)) (16 * (543 + c)) 16) (v.2.2.1 132)) := by
  obtain ⟨⟨a1, a2, a3, a4, a5, a6⟩, b, c1, c2⟩ := hr
  refine ⟨a1, a2, fun a q0 q1 q2 q3 q4 q5 q6 q7 q8 q9 q10 => ?_, fun a ha => ?_, fun j hj => ?_, a6, fun c' hc' => ?_⟩
  · show _ = upN (upN (upN (upN (upN (upN v.2.2.1 95 ((r'.2.2.1 95))) 118 _) 88 _) 89 _) 131 _) 132 _ a
    rw [upN_n _ _ q8, upN_n _ _ q7, upN_n _ _ q10, upN_n _ _ q9]
    by_cases e : a = 118
    · subst e
      rw [upN_s]
      exact hst
    · rw [upN_n _ _ e]
      by_cases e2 : a = 95
      · subst e2
        rw [upN_s]
      · rw [upN_n _ _ e2]
        exact a3 a q0 q1 q2 q3 q4 q5 q6 q7 q8 q9 q10 e2 e
  · show _ = upN v.2.2.2 87 _ a
    rw [upN_n _ _ ha]
    exact a4 a ha
  · show _ = upN (v.2.2.1 131) c (nI m) j
    rw [a5 j hj]
    by_cases e : j = c
    · subst e
      rw [upN_s]
      exact htm
    · rw [upN_n _ _ e]
  · show (r'.2.2.2 87) c' = upN (v.2.2.2 87) (543 + c) ((r'.2.2.2 87) (543 + c)) c' ∧ (r'.2.2.1 88) c' = upN (v.2.2.1 88) (543 + c) ((r'.2.2.1 88) (543 + c)) c' ∧ ∀ k, k < 16 → (r'.2.2.1 89) (16 * c' + k) = wrF (v.2.2.1 89) (fun k => (r'.2.2.1 89) (16 * (543 + c) + k)) (16 * (543 + c)) 16 (16 * c' + k)
    by_cases e : c' = 543 + c
    · subst e
      refine ⟨(upN_s _ _ _).symm, (upN_s _ _ _).symm, fun k hk => ?_⟩
      rw [wrF_i _ _ hk]
    · obtain ⟨y1, y2, y3⟩ := b c' hc' (fun ⟨k, k1, k2⟩ => e (by omega))
      refine ⟨by rw [upN_n _ _ e]; exact y1, by rw [upN_n _ _ e]; exact y2, fun k hk => ?_⟩
      rw [wrF_o _ _ (by omega)]
      exact y3 k hk
/-- a call is over with one row of a tree -/
theorem w_lone (hw : World K tb g r x h) (hc : c < (g.1 0 5)) (hl : (g.2.2.2.2.2 14) c ≠ (g.2.2.2.2.2 15) c) (h0 : (r.2.2.1 118) c = 0) (hi : i < (g.1 0 3)) {nt : Int32} : World K tb (enG (gP g h.1 3 (0, 0, 0) (5, loF nt i)) c 0 h.1 1) (rgR (sA r 118 c 2) c n (nI 1) (w5F ((r.2.2.1 132)) (60 * c + 5 * 0) 0 nt (nI i) 0 0)) x (enH (lnH h nt i) ((g.1 6) c) 2 0 h.1) := by
  have hh := sim_146 hw.1
  have n60 := (w_nc hw).2.1
  have t0 := sim_top hw.1 (Nat.le_refl h.1)
  have hs1 : Sim K g r x (lnH h nt i) := sim_junk (sim_junk (sim_new hw.1 _ _ _) t0 hh _ _) t0 hh _ _
  have w1 := w_prom (w := (0, 0, 0)) (w2 := (5, loF nt i)) (k := 3) (⟨hs1, hw.2⟩ : World K tb g r x (lnH h nt i)) t0 hh (by rw [lnH_1]; omega) ⟨by omega, by omega⟩ (fun z => by omega) (fun z => by omega) (fun _ => lnH_s)
  refine w_rg (ta := h.1) (m := 1) w1 hc hl h0 (by omega) ⟨hh, by rw [lnH_1]; omega, gP_ro⟩ (by rw [gP_ar]) (fun k hk => ?_) (fun k hk => w5_o (by omega))
  rw [gP_ar]
  exact (w5_i (T := (r.2.2.1 132)) (V := loF nt i) (p := 5 * 0) (q := 60 * c) (w0 := 0) (w1 := nt) (w2 := nI i) (w3 := 0) (w4 := 0) (fun k hk => by omega) rfl rfl rfl rfl rfl k (by omega)).symm
end
