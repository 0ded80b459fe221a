section
variable {K : Nat → pcell} {tb : Nat} {g g' : gS} {r r' r0 : rS} {x x' : xS} {h h' : pheap} {a n k m i j c p q d s o A u : Nat} {Q : Option Value → pheap → Prop} {av : Nat → Nat} {sr : Nat → Int32}
theorem ca_fr (hw : World K tb g r x h) (hca : CA K g r h c o A n av sr) (hA0 : g.2.2.2.1 A = (0, 0)) (hf : FR g' g h' h k u) (hr : RF r' r) : CA K g' r' h' c o A n av sr ∧ eSort g' r' c = eSort g r c := by
  obtain ⟨h1, h2, h3, h4, h5⟩ := hca
  obtain ⟨⟨b1, b2, b3, b4, b5, b6⟩, b7⟩ := hf
  have gca := b3 14 (by decide)
  have gsv := b3 15 (by decide)
  have gob := b3 17 (by decide)
  have gos := b3 13 (by decide)
  have gcm := b3 16 (by decide)
  have gwa := b3 10 (by decide)
  have gnr := b3 11 (by decide)
  have hbs : bsO g' c = bsO g c := by unfold bsO; rw [gca, gsv]
  have hb0 : 363 ≤ bsO g c := by unfold bsO; split <;> omega
  refine ⟨⟨by rw [b1]; exact h1, by rw [gob]; exact h2, ?_, by rw [gwa, gos, gcm]; exact h4, fun k hk => by rw [gos, gcm, hr.2.2.1 _ (by decide)]; exact h5 k hk⟩, ?_⟩
  · rw [hbs]
    obtain ⟨⟨a1, a2, a3, a4, a5, a6⟩, a7⟩ := h3
    have hcA := (b7 A a2).2.2.2 (by rw [hA0]; decide)
    refine ⟨⟨a1, by omega, by rw [hcA]; exact a3, by rw [hcA]; exact a4, a5, a6⟩, fun k hk => ?_⟩
    obtain ⟨y1, ⟨y2, y3, y4⟩, y5, y6, y7⟩ := a7 k hk
    obtain ⟨c1, c2, c3, c4⟩ := b7 (av k) y3
    refine ⟨by rw [hcA]; exact y1, ⟨y2, by omega, c1.trans y4⟩, by rw [b2]; exact y5, ?_, ?_⟩
    · have ht : (g.2.1 (av k)).2.2 < h.1 := by
        by_cases z : (g.2.1 (av k)).2.2 = 0
        · have := sim_146 hw.1
          omega
        · exact (hw.1.2.1.2.1 (av k) (by rw [y4]) z).2.1
      exact VR_c (g := g) (hr.2.2.2.2 _ (by omega)) (by rw [hr.2.2.1 _ (by decide)]) (fun j _ => by rw [hr.2.2.1 _ (by decide)]) c2 (b7 _ ht).2.2.1 y6
    · rw [hr.2.2.2.2 _ (by omega), b1, gnr, gos]
      exact y7
  · unfold eSort
    rw [gob, gos, gcm, hr.2.2.1 _ (by decide)]
/-- answerOf against act, for RAISE -/
theorem act_4 (hw : World K tb g r x h) (hca : CA K g r h c o A n av sr) (hA0 : g.2.2.2.1 A = (0, 0)) (hf : (r.1 78) = 0) (hd : (r.2.2.1 102) o = 4) : ∃ g' r' h' va, World K tb g' r' x h' ∧ DG g' g h' h 362 1143 ∧ DR r' r ∧ Out g' r' h' (eSort g r c) va 0 0 ∧
    (∀ d r0 Q, Go (d + 8) 113 0 [.ref 5, .ref ((g.1 5) o), .int (eSort g r c), .ref A] [] (putR r0 (putX x h)) Q = Q (some (.ref va)) (putR r0 (putX x h'))) ∧
    (∀ d (H : pheap) Q, 146 ≤ H.1 → Go (d + 4) 252 0 [.ref 73, .int (nI c), .int (nI o)] [] (putR r H) Q = Q none (putR r' H)) := by
  have hh := sim_146 hw.1
  obtain ⟨s1, s2, s3, s4, s5, s6⟩ := ca_s hw hca.1 hca.2.1
  obtain ⟨o1, o2, -⟩ := w_no hw
  obtain ⟨t1, t2, ⟨t, q0, q1, q2, q3, q4, q5, q6, q7, q8⟩⟩ := s_thg hw.1 s4
  obtain ⟨g1, r1, h1, z1, z2, z3, z4, z5⟩ := raise_ok hw hca
  obtain ⟨hca1, hes⟩ := ca_fr hw hca hA0 z2 z3
  obtain ⟨g', r', h', va, y1, y2, y3, y4, y5, y6⟩ := echo_ok z1 hca1 (by rw [z3.1]; exact hf)
  rw [hes] at y4 y5
  refine ⟨g', r', h', va, y1, dg_t (dg_gro y2) z2.1, dr_t (dr_sc y3.1) ⟨z3.2.2.1 _ (by decide), z3.2.2.1 _ (by decide), z3.2.2.1 _ (by decide), z3.2.2.1 _ (by decide), z3.2.2.1 _ (by decide)⟩, y4, fun d r0 Q => ?_, fun d H Q hh => ?_⟩
  · have e := fun Q => z4 d r0 Q
    have e2 := fun Q => y5 (d + 3) r0 Q
    rw [hd] at q3
    simp (disch := first | exact c1_i _ | exact c1_r _ | exact c1_n | exact c1_m | omega | assumption | (apply ac_l; omega) | (apply ac_r; omega) | decide | exact Or.inl rfl) only [e_113_0, e_113_0n, e_113_1, e_113_4, e_113_36, e_113_36n, e_113_37, e_113_37n, e_113_38, e_113_41, e_113_41n, e_113_42, e_113_43, e_113_46, e_113_46n, e_113_47, e_113_47n, e_113_48, e_113_48n, e_113_49, e_113_50, e_113_50n, e_113_51, e_113_54, e_113_54n, e_113_55, e_113_55n, e_113_56, e_113_56n, e_113_57, e_113_60, e_113_61, e_113_61n, e_113_62, e_113_65, e_113_65n, e_113_66, e_113_67, e_113_67n, e_113_68, e_113_71, e_113_71n, Option.toList_some, Option.toList_none, List.cons_append, List.nil_append, catS_cons, catS_nil, cat_int, cat_long, cat_ref, cat_null, c1_i, c1_r, c1_n, c1_m, true_and, and_true, and_self, putR_1, putR_u, eq_self, Nat.reduceLT, Nat.reduceLeDiff, Nat.reduceAdd, Nat.reduceEqDiff, vk_i, vk_l, vk_r, vk_n, vk_0, vk_1, if_true, if_false, not_true_eq_false, not_false_eq_true, false_and, and_false, ne_eq, true_or, or_true, ite_not, reduceCtorEq, putX_1, putX_u, putX_hi, hset_Xhi, px_5, xf_5_0, xf_5_1, xI_5_1, xf_5_2, xR_0, xf_5_3, xI_5_3, xf_5_4, xI_5_4, xf_5_5, xf_5_6, xI_5_6, xf_5_7, xf_5_8, xf_5_9, xf_5_10, xf_5_11, xf_5_12, xf_5_13, xf_5_14, xf_5_15, xI_5_15, px_6, xA_6, px_18, xA_18, px_19, xf_19_0, xI_19_0, xf_19_1, xR_1, xf_19_2, xI_19_2, px_20, xf_20_0, xI_20_0, xf_20_1, xR_2, xf_20_2, xI_20_2, px_21, xf_21_0, xI_21_0, xf_21_1, xR_3, xf_21_2, xI_21_2, px_22, xf_22_0, xI_22_0, xf_22_1, xR_4, xf_22_2, xI_22_2, px_23, xf_23_0, xI_23_0, xf_23_1, xR_5, xf_23_2, xI_23_2, px_24, xf_24_0, xI_24_0, xf_24_1, xR_6, xf_24_2, xI_24_2, px_25, xf_25_0, xI_25_0, xf_25_1, xI_25_1, xf_25_2, xf_25_3, xI_25_3, xf_25_4, xf_25_5, xf_25_6, px_26, xA_26, px_27, px_28, xA_28, px_29, xA_29, px_30, xA_30, px_31, xA_31, px_32, xA_32, px_33, xA_33, px_34, xA_34, px_35, xA_35, px_36, xA_36, px_37, xA_37, px_38, xA_38, px_39, xA_39, px_40, xA_40, px_41, xA_41, px_42, xA_42, px_43, xA_43, px_44, xA_44, px_45, xA_45, px_46, xA_46, px_47, xA_47, px_48, xA_48, px_49, xA_49, px_50, xA_50, px_51, xA_51, px_52, xA_52, px_53, xA_53, px_54, xA_54, px_55, xA_55, px_56, xA_56, px_57, xA_57, px_58, xA_58, px_59, xA_59, px_60, xA_60, px_61, xA_61, px_62, xA_62, px_63, xA_63, px_64, xA_64, px_65, xA_65, px_66, xA_66, px_67, xA_67, px_68, xA_68, px_69, xA_69, px_70, xf_70_0, xI_70_0, xf_70_1, xI_70_1, xf_70_2, xI_70_2, xf_70_3, xf_70_4, px_71, xA_71, px_72, xA_72, ni_ixL, ni_clL, ni_add, ni_mul, ni_lt, ni_le, ni_eq, ni_clamp, ni_ix, ni_lt0, ni_0le, ni_ltL, ni_Llt, ni_leL, ni_Lle, ni_eqL, ni_addL, ni_Ladd, ni_mulL, ni_Lmul, ni_subL, ni_sub, ni_Lsub, le_t, le_f, lt_t, lt_f, eq_f, il_lt, il_l0, il_g0, il_l1, il_g1, il_l2, il_g2, il_l3, il_g3, il_l4, il_g4, il_l5, il_g5, il_l7, il_g7, il_l8, il_g8, il_l9, il_g9, il_l10, il_g10, il_l15, il_g15, il_l20, il_g20, il_l23, il_g23, il_l24, il_g24, il_l60, il_g60, il_l100, il_g100, il_l999, il_g999, il_l1000, il_g1000, putR_lo, hset_lo, putR_lt hh, rd_hi, wr_hi, hs_1, hs_s, hs_o, uv_s, uv_o, pv_0, pv_n, i1_0, bs_0, bs_1, im_lt, im_ge, im_eq, ni_em, t, q3, e, e2, i41, i42, i43]
  · have e := fun Q => z5 d H Q hh
    have e2 := fun Q => y6 d H Q hh
    simp (disch := first | exact c1_i _ | exact c1_r _ | exact c1_n | exact c1_m | omega | assumption | (apply ac_l; omega) | (apply ac_r; omega) | decide | exact Or.inl rfl) only [e_252_0, e_252_0n, e_252_1, e_252_4, e_252_5, e_252_6, e_252_36, e_252_36n, e_252_37, e_252_38, e_252_41, e_252_44, e_252_44n, e_252_45, e_252_45n, e_252_46, e_252_49, e_252_50, e_252_51, e_252_51n, e_252_52, e_252_55, e_252_56, e_252_57, e_252_60, e_252_63, e_252_63n, e_252_64, e_252_65, e_252_68, e_252_71, e_252_71n, e_252_72, e_252_73, e_252_76, e_252_76n, e_252_77, e_252_78, e_252_81, e_252_84, e_252_84n, e_252_85, e_252_86, e_252_89, Option.toList_some, Option.toList_none, List.cons_append, List.nil_append, catS_cons, catS_nil, cat_int, cat_long, cat_ref, cat_null, c1_i, c1_r, c1_n, c1_m, true_and, and_true, and_self, putR_1, putR_u, eq_self, Nat.reduceLT, Nat.reduceLeDiff, Nat.reduceAdd, Nat.reduceEqDiff, vk_i, vk_l, vk_r, vk_n, vk_0, vk_1, if_true, if_false, not_true_eq_false, not_false_eq_true, false_and, and_false, ne_eq, true_or, or_true, ite_not, reduceCtorEq, pr_73, pr_74, pr_75, pr_76, pr_77, pr_78, pr_79, pr_80, pr_81, pr_82, pr_83, pr_84, pr_85, pr_86, pr_87, pr_88, pr_89, pr_90, pr_91, pr_92, pr_93, pr_94, pr_95, pr_96, pr_97, pr_98, pr_99, pr_100, pr_101, pr_102, pr_103, pr_104, pr_105, pr_106, pr_107, pr_108, pr_109, pr_110, pr_111, pr_112, pr_113, pr_114, pr_115, pr_116, pr_117, pr_118, pr_119, pr_120, pr_121, pr_122, pr_123, pr_124, pr_125, pr_126, pr_127, pr_128, pr_129, pr_130, pr_131, pr_132, pr_133, pr_134, pr_135, pr_136, pr_137, pr_138, pr_139, pr_140, pr_141, pr_142, pr_143, pr_144, pr_145, rf_0, rf_1, hI_1, rf_2, hI_2, rf_3, hI_3, rf_4, hI_4, rf_5, hI_5, rf_6, hI_6, rf_7, hI_7, rf_8, rf_9, rf_10, rf_11, hI_11, rf_12, rf_13, rf_14, rf_15, rf_16, hI_16, rf_17, rf_18, rf_19, rf_20, rf_21, rf_22, rf_23, hI_23, rf_24, rf_25, rf_26, rf_27, rf_28, hI_28, rf_29, rf_30, hI_30, rf_31, rf_32, hI_32, rf_33, hI_33, rf_34, rf_35, rf_36, rf_37, rf_38, rf_39, rf_40, rf_41, hI_41, rf_42, rf_43, rf_44, rf_45, rf_46, rf_47, rf_48, rf_49, rf_50, hI_50, rf_51, rf_52, rf_53, rf_54, rf_55, rf_56, rf_57, hI_57, rf_58, rf_59, rf_60, rf_61, rf_62, rf_63, rf_64, rf_65, rf_66, rf_67, rf_68, rf_69, rf_70, rf_71, rf_72, rf_73, rf_74, rf_75, hI_75, rf_76, rf_77, rf_78, hI_78, rf_79, rf_80, rf_81, hI_81, rf_82, hI_82, rf_83, rf_84, hI_84, rf_85, rf_86, rf_87, hI_87, rf_88, hI_88, rf_89, hI_89, rf_90, hI_90, rf_91, rf_92, rf_93, rf_94, hI_94, rf_95, hI_95, rf_96, rf_97, rf_98, rf_99, rf_100, hset_W, hA_74, hL_75, hA_76, hL_77, hA_78, hL_79, hA_80, hL_81, hA_82, hL_83, hA_84, hA_85, hA_86, hL_87, hA_88, hA_89, hA_90, hA_91, hA_92, hA_93, hA_94, hA_95, hA_96, hA_97, hA_98, hA_99, hA_100, hA_101, hA_102, hA_103, hA_104, hA_105, hL_106, hA_107, hA_108, hA_109, hA_110, hA_111, hA_112, hA_113, hA_114, hA_115, hA_116, hA_117, hA_118, hA_119, hA_120, hA_121, hA_122, hA_123, hA_124, hA_125, hA_126, hA_127, hA_128, hA_129, hA_130, hA_131, hA_132, hA_133, hA_134, hA_135, hA_136, hA_137, hA_138, hA_139, hA_140, hA_141, hA_142, hA_143, hA_144, hA_145, ni_ixL, ni_clL, ni_add, ni_mul, ni_lt, ni_le, ni_eq, ni_clamp, ni_ix, ni_lt0, ni_0le, ni_ltL, ni_Llt, ni_leL, ni_Lle, ni_eqL, ni_addL, ni_Ladd, ni_mulL, ni_Lmul, ni_subL, ni_sub, ni_Lsub, le_t, le_f, lt_t, lt_f, eq_f, il_lt, il_l0, il_g0, il_l1, il_g1, il_l2, il_g2, il_l3, il_g3, il_l4, il_g4, il_l5, il_g5, il_l7, il_g7, il_l8, il_g8, il_l9, il_g9, il_l10, il_g10, il_l15, il_g15, il_l20, il_g20, il_l23, il_g23, il_l24, il_g24, il_l60, il_g60, il_l100, il_g100, il_l999, il_g999, il_l1000, il_g1000, r_in, putR_lt hh, sA_1, sA_s, i1_0, bs_0, bs_1, im_lt, im_ge, im_eq, ni_em, hd, e, e2, i41, i42, i43]
end
