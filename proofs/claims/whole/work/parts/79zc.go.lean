section
variable {K : Nat → pcell} {tb : Nat} {g g' g1 g2 g0 : gS} {r r' r0 r1 r2 s s' : rS} {x x' x1 x2 xb : xS} {h h' h1 h2 h0 : pheap} {a n k m i j c p q d va ta L A base o mi b u N cm ou M t sv dd ss n1 n2 u1 u2 : Nat} {Q : Option Value → pheap → Prop} {e : Int32} {av : Nat → Nat} {sr ws : Nat → Int32} {ml : Nat → Nat}
/-- one deed -/
theorem st_ok (hw : World K tb g r x h) (hca : CA K g r h c o A n av sr) (hA0 : g.2.2.2.1 A = (0, 0)) (heq : EQ g r c) : DEnd K tb g r x h c A 364 1388 ∨ DMore K tb g r x h c A n av sr := by
  obtain ⟨s1, s2, s3, s4, s5, s6⟩ := ca_s hw hca.1 hca.2.1
  obtain ⟨hw1, hca1⟩ := w_beg hw hca hA0
  obtain ⟨-, -, -, -, ⟨k, k5, hk⟩, -⟩ := w_obj hw o s4
  have hlt : ∀ g' h' h0, DG g' g h' h0 1 3 → DG g' g h' h0 362 1143 := fun g' h' h0 y => ⟨y.1, y.2.1, y.2.2.1, y.2.2.2.1, by have := y.2.2.2.2.1; omega, by have := y.2.2.2.2.2; omega⟩
  obtain rfl | rfl | rfl | rfl | rfl | rfl : k = 0 ∨ k = 1 ∨ k = 2 ∨ k = 3 ∨ k = 4 ∨ k = 5 := by omega
  · left
    refine st_act hw hca hA0 heq (by rw [hk]; decide) (by rw [hk]; decide) ?_
    obtain ⟨g', r', h', va, y1, y2, y3⟩ := act_013 hw1 hca1 rfl (Or.inl hk)
    exact ⟨g', r', h', va, y1, hlt _ _ _ y2, y3⟩
  · left
    refine st_act hw hca hA0 heq (by rw [hk]; decide) (by rw [hk]; decide) ?_
    obtain ⟨g', r', h', va, y1, y2, y3⟩ := act_013 hw1 hca1 rfl (Or.inr (Or.inl hk))
    exact ⟨g', r', h', va, y1, hlt _ _ _ y2, y3⟩
  · left
    exact st_fail hw hca hA0 heq hk
  · left
    refine st_act hw hca hA0 heq (by rw [hk]; decide) (by rw [hk]; decide) ?_
    obtain ⟨g', r', h', va, y1, y2, y3⟩ := act_013 hw1 hca1 rfl (Or.inr (Or.inr hk))
    exact ⟨g', r', h', va, y1, hlt _ _ _ y2, y3⟩
  · left
    refine st_act hw hca hA0 heq (by rw [hk]; decide) (by rw [hk]; decide) ?_
    exact act_4 hw1 hca1 hA0 rfl hk
  · exact st_relay hw hca hA0 heq hk
/-- deeds, one within the other, by how many calls may still come -/
theorem go_ok : ∀ t g r x h c o i, (g.1 0 5) + t = 60 → i < (g.1 0 5) → World K tb g r x h → CA K g r h c o A n av sr → g.2.2.2.1 A = (0, 0) → EQ g r c → ∃ g' r' x' h', World K tb g' r' x' h' ∧ GFr g' g h' h (364 + 2 * t) (1388 + 117 * t) ∧ (∀ d r0 Q F Y5 Y6 Y7 Y8, Go (d + 42) 104 5 [.ref 5, F, .ref A, .ref ((g.1 6) c), .int (nI i), Y5, Y6, Y7, Y8] [] (putR r0 (putX x h)) Q = Q none (putR r0 (putX x' h'))) ∧ (∀ d (H : pheap) Q (F : Int32) Z4 Z5, 146 ≤ H.1 → Go (d + 8) 234 4 [.ref 73, .int F, .int (nI c), .int 1, Z4, Z5] [] (putR r H) Q = Q none (putR r' H)) := by
  intro t
  induction t with
  | zero =>
    intro g r x h c o i ht hi hw hca hA0 heq
    have hi60 := (w_nc hw).2.1
    rcases st_ok hw hca hA0 heq with ⟨g', r', x', h', y1, y2, y3, y4⟩ | ⟨hn, -⟩
    · have hc := hca.1
      by_cases h60 : i < 60
      · exact ⟨g', r', x', h', y1, gfr_le y2 (by omega) (by omega), fun d r0 Q F Y5 Y6 Y7 Y8 => y3 d r0 Q F i Y5 Y6 Y7 Y8 h60, y4⟩
      · omega
    · omega
  | succ t ih =>
    intro g r x h c o i ht hi hw hca hA0 heq
    have hi60 := (w_nc hw).2.1
    rcases st_ok hw hca hA0 heq with ⟨g', r', x', h', y1, y2, y3, y4⟩ | ⟨hn, t', g1, r1, x1, h1, y1, y2, y3, y4, y5, y6, y7, y8⟩
    · exact ⟨g', r', x', h', y1, gfr_le y2 (by omega) (by omega), fun d r0 Q F Y5 Y6 Y7 Y8 => y3 d r0 Q F i Y5 Y6 Y7 Y8 (by omega), y4⟩
    · obtain ⟨g', r', x', h', z1, z2, z3, z4⟩ := ih g1 r1 x1 h1 (g.1 0 5) t' (i + 1) (by omega) (by omega) y1 y4 y5 y6
      refine ⟨g', r', x', h', z1, gfr_le (gfr_t z2 y2) (by omega) (by omega), fun d r0 Q F Y5 Y6 Y7 Y8 => ?_, fun d H Q F Z4 Z5 hH => ?_⟩
      · obtain ⟨Z5, Z6, Z7, Z8, e⟩ := y7 d r0 Q F i Y5 Y6 Y7 Y8 (by omega)
        rw [e]
        exact z3 d r0 Q F Z5 Z6 Z7 Z8
      · obtain ⟨Y4, Y5, e⟩ := y8 d H Q F Z4 Z5 hH
        rw [e]
        exact z4 d H Q F Y4 Y5 hH
/-- perform against go -/
theorem perform_ok (hw : World K tb g r x h) (hca : CA K g r h c o A n av sr) (hA0 : g.2.2.2.1 A = (0, 0)) (heq : EQ g r c) : ∃ g' r' x' h', World K tb g' r' x' h' ∧ GFr g' g h' h 484 8408 ∧ (∀ d r0 Q, Go (d + 42) 104 0 [.ref 5, .ref ((g.1 6) c), .ref A, mk0, mk0, mk0, mk0, mk0, mk0] [] (putR r0 (putX x h)) Q = Q none (putR r0 (putX x' h'))) ∧ (∀ d (H : pheap) Q, 146 ≤ H.1 → Go (d + 8) 234 0 [.ref 73, .int (nI c), mk0, mk0, mk0, mk0] [] (putR r H) Q = Q none (putR r' H)) := by
  have hh := sim_146 hw.1
  obtain ⟨n1, n2, n3⟩ := w_nc hw
  have hc := hca.1
  obtain ⟨g', r', x', h', z1, z2, z3, z4⟩ := go_ok (60 - (g.1 0 5)) g r x h c o 0 (by omega) (by omega) hw hca hA0 heq
  refine ⟨g', r', x', h', z1, gfr_le z2 (by omega) (by omega), fun d r0 Q => ?_, fun d H Q hH => ?_⟩
  · rw [← z3 d r0 Q (.ref ((g.1 6) c)) mk0 mk0 mk0 mk0]
    simp (disch := first | exact c1_i _ | exact c1_r _ | exact c1_n | exact c1_m | omega | assumption | (apply ac_l; omega) | (apply ac_r; omega) | decide | exact Or.inl rfl) only [e_104_0, e_104_0n, e_104_1, e_104_1n, e_104_2, e_104_3, Option.toList_some, Option.toList_none, List.cons_append, List.nil_append, catS_cons, catS_nil, cat_int, cat_long, cat_ref, cat_null, c1_i, c1_r, c1_n, c1_m, true_and, and_true, and_self, putR_1, putR_u, eq_self, Nat.reduceLT, Nat.reduceLeDiff, Nat.reduceAdd, Nat.reduceEqDiff, vk_i, vk_l, vk_r, vk_n, vk_0, vk_1, if_true, if_false, not_true_eq_false, not_false_eq_true, false_and, and_false, ne_eq, true_or, or_true, ite_not, reduceCtorEq, putX_1, putX_u, putX_hi, hset_Xhi, px_5, xf_5_0, xf_5_1, xI_5_1, xf_5_2, xR_0, xf_5_3, xI_5_3, xf_5_4, xI_5_4, xf_5_5, xf_5_6, xI_5_6, xf_5_7, xf_5_8, xf_5_9, xf_5_10, xf_5_11, xf_5_12, xf_5_13, xf_5_14, xf_5_15, xI_5_15, px_6, xA_6, px_18, xA_18, px_19, xf_19_0, xI_19_0, xf_19_1, xR_1, xf_19_2, xI_19_2, px_20, xf_20_0, xI_20_0, xf_20_1, xR_2, xf_20_2, xI_20_2, px_21, xf_21_0, xI_21_0, xf_21_1, xR_3, xf_21_2, xI_21_2, px_22, xf_22_0, xI_22_0, xf_22_1, xR_4, xf_22_2, xI_22_2, px_23, xf_23_0, xI_23_0, xf_23_1, xR_5, xf_23_2, xI_23_2, px_24, xf_24_0, xI_24_0, xf_24_1, xR_6, xf_24_2, xI_24_2, px_25, xf_25_0, xI_25_0, xf_25_1, xI_25_1, xf_25_2, xf_25_3, xI_25_3, xf_25_4, xf_25_5, xf_25_6, px_26, xA_26, px_27, px_28, xA_28, px_29, xA_29, px_30, xA_30, px_31, xA_31, px_32, xA_32, px_33, xA_33, px_34, xA_34, px_35, xA_35, px_36, xA_36, px_37, xA_37, px_38, xA_38, px_39, xA_39, px_40, xA_40, px_41, xA_41, px_42, xA_42, px_43, xA_43, px_44, xA_44, px_45, xA_45, px_46, xA_46, px_47, xA_47, px_48, xA_48, px_49, xA_49, px_50, xA_50, px_51, xA_51, px_52, xA_52, px_53, xA_53, px_54, xA_54, px_55, xA_55, px_56, xA_56, px_57, xA_57, px_58, xA_58, px_59, xA_59, px_60, xA_60, px_61, xA_61, px_62, xA_62, px_63, xA_63, px_64, xA_64, px_65, xA_65, px_66, xA_66, px_67, xA_67, px_68, xA_68, px_69, xA_69, px_70, xf_70_0, xI_70_0, xf_70_1, xI_70_1, xf_70_2, xI_70_2, xf_70_3, xf_70_4, px_71, xA_71, px_72, xA_72, ni_ixL, ni_clL, ni_add, ni_mul, ni_lt, ni_le, ni_eq, ni_clamp, ni_ix, ni_lt0, ni_0le, ni_ltL, ni_Llt, ni_leL, ni_Lle, ni_eqL, ni_addL, ni_Ladd, ni_mulL, ni_Lmul, ni_subL, ni_sub, ni_Lsub, le_t, le_f, lt_t, lt_f, eq_f, il_lt, il_l0, il_g0, il_l1, il_g1, il_l2, il_g2, il_l3, il_g3, il_l4, il_g4, il_l5, il_g5, il_l7, il_g7, il_l8, il_g8, il_l9, il_g9, il_l10, il_g10, il_l15, il_g15, il_l20, il_g20, il_l23, il_g23, il_l24, il_g24, il_l60, il_g60, il_l100, il_g100, il_l999, il_g999, il_l1000, il_g1000, putR_lo, hset_lo, putR_lt hh, rd_hi, wr_hi, hs_1, hs_s, hs_o, uv_s, uv_o, pv_0, pv_n, i1_0, bs_0, bs_1, im_lt, im_ge, im_eq, ni_em]
    rfl
  · rw [← z4 d H Q (nI c) mk0 mk0 hH]
    have hh := hH
    simp (disch := first | exact c1_i _ | exact c1_r _ | exact c1_n | exact c1_m | omega | assumption | (apply ac_l; omega) | (apply ac_r; omega) | decide | exact Or.inl rfl) only [e_234_0, e_234_1, e_234_2, e_234_3, Option.toList_some, Option.toList_none, List.cons_append, List.nil_append, catS_cons, catS_nil, cat_int, cat_long, cat_ref, cat_null, c1_i, c1_r, c1_n, c1_m, true_and, and_true, and_self, putR_1, putR_u, eq_self, Nat.reduceLT, Nat.reduceLeDiff, Nat.reduceAdd, Nat.reduceEqDiff, vk_i, vk_l, vk_r, vk_n, vk_0, vk_1, if_true, if_false, not_true_eq_false, not_false_eq_true, false_and, and_false, ne_eq, true_or, or_true, ite_not, reduceCtorEq, pr_73, pr_74, pr_75, pr_76, pr_77, pr_78, pr_79, pr_80, pr_81, pr_82, pr_83, pr_84, pr_85, pr_86, pr_87, pr_88, pr_89, pr_90, pr_91, pr_92, pr_93, pr_94, pr_95, pr_96, pr_97, pr_98, pr_99, pr_100, pr_101, pr_102, pr_103, pr_104, pr_105, pr_106, pr_107, pr_108, pr_109, pr_110, pr_111, pr_112, pr_113, pr_114, pr_115, pr_116, pr_117, pr_118, pr_119, pr_120, pr_121, pr_122, pr_123, pr_124, pr_125, pr_126, pr_127, pr_128, pr_129, pr_130, pr_131, pr_132, pr_133, pr_134, pr_135, pr_136, pr_137, pr_138, pr_139, pr_140, pr_141, pr_142, pr_143, pr_144, pr_145, rf_0, rf_1, hI_1, rf_2, hI_2, rf_3, hI_3, rf_4, hI_4, rf_5, hI_5, rf_6, hI_6, rf_7, hI_7, rf_8, rf_9, rf_10, rf_11, hI_11, rf_12, rf_13, rf_14, rf_15, rf_16, hI_16, rf_17, rf_18, rf_19, rf_20, rf_21, rf_22, rf_23, hI_23, rf_24, rf_25, rf_26, rf_27, rf_28, hI_28, rf_29, rf_30, hI_30, rf_31, rf_32, hI_32, rf_33, hI_33, rf_34, rf_35, rf_36, rf_37, rf_38, rf_39, rf_40, rf_41, hI_41, rf_42, rf_43, rf_44, rf_45, rf_46, rf_47, rf_48, rf_49, rf_50, hI_50, rf_51, rf_52, rf_53, rf_54, rf_55, rf_56, rf_57, hI_57, rf_58, rf_59, rf_60, rf_61, rf_62, rf_63, rf_64, rf_65, rf_66, rf_67, rf_68, rf_69, rf_70, rf_71, rf_72, rf_73, rf_74, rf_75, hI_75, rf_76, rf_77, rf_78, hI_78, rf_79, rf_80, rf_81, hI_81, rf_82, hI_82, rf_83, rf_84, hI_84, rf_85, rf_86, rf_87, hI_87, rf_88, hI_88, rf_89, hI_89, rf_90, hI_90, rf_91, rf_92, rf_93, rf_94, hI_94, rf_95, hI_95, rf_96, rf_97, rf_98, rf_99, rf_100, hset_W, hA_74, hL_75, hA_76, hL_77, hA_78, hL_79, hA_80, hL_81, hA_82, hL_83, hA_84, hA_85, hA_86, hL_87, hA_88, hA_89, hA_90, hA_91, hA_92, hA_93, hA_94, hA_95, hA_96, hA_97, hA_98, hA_99, hA_100, hA_101, hA_102, hA_103, hA_104, hA_105, hL_106, hA_107, hA_108, hA_109, hA_110, hA_111, hA_112, hA_113, hA_114, hA_115, hA_116, hA_117, hA_118, hA_119, hA_120, hA_121, hA_122, hA_123, hA_124, hA_125, hA_126, hA_127, hA_128, hA_129, hA_130, hA_131, hA_132, hA_133, hA_134, hA_135, hA_136, hA_137, hA_138, hA_139, hA_140, hA_141, hA_142, hA_143, hA_144, hA_145, ni_ixL, ni_clL, ni_add, ni_mul, ni_lt, ni_le, ni_eq, ni_clamp, ni_ix, ni_lt0, ni_0le, ni_ltL, ni_Llt, ni_leL, ni_Lle, ni_eqL, ni_addL, ni_Ladd, ni_mulL, ni_Lmul, ni_subL, ni_sub, ni_Lsub, le_t, le_f, lt_t, lt_f, eq_f, il_lt, il_l0, il_g0, il_l1, il_g1, il_l2, il_g2, il_l3, il_g3, il_l4, il_g4, il_l5, il_g5, il_l7, il_g7, il_l8, il_g8, il_l9, il_g9, il_l10, il_g10, il_l15, il_g15, il_l20, il_g20, il_l23, il_g23, il_l24, il_g24, il_l60, il_g60, il_l100, il_g100, il_l999, il_g999, il_l1000, il_g1000, r_in, putR_lt hh, sA_1, sA_s, i1_0, bs_0, bs_1, im_lt, im_ge, im_eq, ni_em]
end
