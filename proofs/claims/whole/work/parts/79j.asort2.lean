section
variable {K : Nat → pcell} {tb : Nat} {g g' : gS} {r r' r0 : rS} {x x' : xS} {h h' : pheap} {a n k m i j c p q d s o : Nat} {Q : Option Value → pheap → Prop}
theorem x_asort (hw : World K tb g r x h) (hc : c < (g.1 0 5)) (ho : (g.2.2.2.2.2 17) c = o + 1) : Go (d + 2) 112 0 [.ref 5, .ref ((g.1 6) c), mk0] [] (putR r0 (putX x h)) Q = Q (some (.int (eSort g r c))) (putR r0 (putX x h)) := by
  have hh := sim_146 hw.1
  obtain ⟨sn1, sn2⟩ := w_sn hw
  obtain ⟨s1, s2, s3, s4, s5, s6⟩ := ca_s hw hc ho
  obtain ⟨a1, a2, ⟨t, q0, q1, q2, q3, q4, q5, q6, q7, q8, q9, q10, q11, q12, q13, q14, q15, q16⟩⟩ := s_cal hw.1 hc
  obtain ⟨u1, u2, u3, u4, u5, u6, u7, u8, u9, -⟩ := w_cal hw c hc
  have hm := (u9 (by omega)).1
  rw [show (g.2.2.2.2.2 17) c - 1 = o by omega] at hm
  obtain ⟨-, -, v1, v2, -⟩ := w_obj hw o s4
  obtain ⟨t1, t2, ⟨tt, t3, t4, t5, -⟩⟩ := s_thg hw.1 s4
  rw [if_neg (by omega), show (g.2.2.2.2.2 17) c - 1 = o by omega, pv_n (by omega)] at q3
  obtain ⟨m1, m2, mt, m3, m4, m5, m6, m7, m8, m9, m10, m11, m12⟩ := s_bk0 hw.1
  obtain ⟨-, b2, bb⟩ := s_bk hw.1 (j := 8) (by omega)
  obtain ⟨bt, bl, bc⟩ := bb.2.2.2.2.2.1 rfl
  have bcs : (h.2.2 (x.2 0 + 8)).2.2 (8 * (g.2.2.2.2.2 13) o + (g.2.2.2.2.2 16) c) = .int (eSort g r c) := by
    rw [s1]
    exact bc _ v2 _ hm
  have e1 := fun Q => x_methodRow (d := d) (r0 := r0) (Q := Q) hw v2 hm
  simp (disch := first | exact c1_i _ | exact c1_r _ | exact c1_n | exact c1_m | omega | assumption | (apply ac_l; omega) | (apply ac_r; omega) | decide | exact Or.inl rfl) only [e_112_0, e_112_0n, e_112_1, e_112_4n, e_112_4, e_112_7, e_112_8, e_112_11, e_112_11n, e_112_12, e_112_15, e_112_15n, e_112_16, e_112_19, e_112_22, e_112_22n, e_112_23, e_112_26, e_112_29, e_112_30, e_112_31, e_112_32, e_112_35, e_112_36, e_112_39, e_112_39n, e_112_40, e_112_43, e_112_46, e_112_47, e_112_48, Option.toList_some, Option.toList_none, List.cons_append, List.nil_append, catS_cons, catS_nil, cat_int, cat_long, cat_ref, cat_null, c1_i, c1_r, c1_n, c1_m, true_and, and_true, and_self, putR_1, putR_u, eq_self, Nat.reduceLT, Nat.reduceLeDiff, Nat.reduceAdd, Nat.reduceEqDiff, vk_i, vk_l, vk_r, vk_n, vk_0, vk_1, if_true, if_false, not_true_eq_false, not_false_eq_true, false_and, and_false, ne_eq, true_or, or_true, ite_not, reduceCtorEq, putX_1, putX_u, putX_hi, hset_Xhi, px_5, xf_5_0, xf_5_1, xI_5_1, xf_5_2, xR_0, xf_5_3, xI_5_3, xf_5_4, xI_5_4, xf_5_5, xf_5_6, xI_5_6, xf_5_7, xf_5_8, xf_5_9, xf_5_10, xf_5_11, xf_5_12, xf_5_13, xf_5_14, xf_5_15, xI_5_15, px_6, xA_6, px_18, xA_18, px_19, xf_19_0, xI_19_0, xf_19_1, xR_1, xf_19_2, xI_19_2, px_20, xf_20_0, xI_20_0, xf_20_1, xR_2, xf_20_2, xI_20_2, px_21, xf_21_0, xI_21_0, xf_21_1, xR_3, xf_21_2, xI_21_2, px_22, xf_22_0, xI_22_0, xf_22_1, xR_4, xf_22_2, xI_22_2, px_23, xf_23_0, xI_23_0, xf_23_1, xR_5, xf_23_2, xI_23_2, px_24, xf_24_0, xI_24_0, xf_24_1, xR_6, xf_24_2, xI_24_2, px_25, xf_25_0, xI_25_0, xf_25_1, xI_25_1, xf_25_2, xf_25_3, xI_25_3, xf_25_4, xf_25_5, xf_25_6, px_26, xA_26, px_27, px_28, xA_28, px_29, xA_29, px_30, xA_30, px_31, xA_31, px_32, xA_32, px_33, xA_33, px_34, xA_34, px_35, xA_35, px_36, xA_36, px_37, xA_37, px_38, xA_38, px_39, xA_39, px_40, xA_40, px_41, xA_41, px_42, xA_42, px_43, xA_43, px_44, xA_44, px_45, xA_45, px_46, xA_46, px_47, xA_47, px_48, xA_48, px_49, xA_49, px_50, xA_50, px_51, xA_51, px_52, xA_52, px_53, xA_53, px_54, xA_54, px_55, xA_55, px_56, xA_56, px_57, xA_57, px_58, xA_58, px_59, xA_59, px_60, xA_60, px_61, xA_61, px_62, xA_62, px_63, xA_63, px_64, xA_64, px_65, xA_65, px_66, xA_66, px_67, xA_67, px_68, xA_68, px_69, xA_69, px_70, xf_70_0, xI_70_0, xf_70_1, xI_70_1, xf_70_2, xI_70_2, xf_70_3, xf_70_4, px_71, xA_71, px_72, xA_72, ni_ixL, ni_clL, ni_add, ni_mul, ni_lt, ni_le, ni_eq, ni_clamp, ni_ix, ni_lt0, ni_0le, ni_ltL, ni_Llt, ni_leL, ni_Lle, ni_eqL, ni_addL, ni_Ladd, ni_mulL, ni_Lmul, ni_subL, ni_sub, ni_Lsub, le_t, le_f, lt_t, lt_f, eq_f, il_lt, il_l0, il_g0, il_l1, il_g1, il_l2, il_g2, il_l3, il_g3, il_l4, il_g4, il_l5, il_g5, il_l7, il_g7, il_l8, il_g8, il_l9, il_g9, il_l10, il_g10, il_l15, il_g15, il_l20, il_g20, il_l23, il_g23, il_l24, il_g24, il_l60, il_g60, il_l100, il_g100, il_l999, il_g999, il_l1000, il_g1000, putR_lo, hset_lo, putR_lt hh, rd_hi, wr_hi, hs_1, hs_s, hs_o, uv_s, uv_o, pv_0, pv_n, i1_0, bs_0, bs_1, im_lt, im_ge, im_eq, ni_em, rd_bk m1, rd_bk0 m1, t, q3, q4, tt, t5, e1, mt, m10, bt, bl, bcs]
end
