section
variable {K : Nat → pcell} {tb : Nat} {g g' g0 g1 : gS} {r r' r0 : rS} {x x' x1 : xS} {h h' h1 : pheap} {d : Nat} {Q : Option Value → pheap → Prop} {a n k m rc : Nat}
/-- the hand is emptied: the world -/
theorem clear_w (hw : World K tb g r x h) (f : Nat → Value) (hf : x.2 1 = 1 → f = (h.2.2 (x.2 1)).2.2) : World K tb (gL g 0 0 0) (sI r 30 0) (clX x) (hC h (x.2 1) f) := by
  have hh := sim_146 hw.1
  obtain ⟨n1, n2, n3⟩ := w_nh hw
  have hK := hw.1.1.2.2.1
  obtain ⟨hS, hI, hms⟩ := w_scr hw (a := 19) (k := 0) (Or.inr (Or.inr (Or.inr ⟨by omega, by omega, rfl⟩))) (x.1 19 0 + 1)
  obtain ⟨hCnt, hTxt, hBk, hDs, hOb, hNo, hVa, hFa, hCa, hWy⟩ := hI
  have hel := @sim_cell _ _ _ _ _ hS (x.2 1) (4, 1)
  obtain ⟨⟨s1, s2, s3, s4⟩, pf, hC', bk, vr, kp, ft, flx, fw, fx⟩ := hS
  have hx1 : x.2 1 = 1 ∨ 146 ≤ x.2 1 := by
    by_cases hx : x.2 1 = 1
    · exact Or.inl hx
    · exact Or.inr (pf.1 _ _ (ref_el (q := 1) (by decide) (by decide) hx)).1
  have hid : x.2 1 = 1 → hC h (x.2 1) f = h := fun z => by rw [hf z]; exact hC_i
  refine ⟨⟨⟨s1, s2, fun b hb => ?_, s4⟩, ⟨fun p c' hp => ?_, pf.2.1, fun b hb => ?_⟩, fun b b1 b2 => ?_, ?_, ⟨fun k hk => absurd hk (Nat.not_lt_zero k), vr.2.1, vr.2.2⟩, kp, ?_, fun q q1 q2 => ?_, fxw_t fw (by omega), ?_⟩, ⟨?_, hTxt, hBk, hDs, hOb, hNo, ⟨fun k hk => absurd hk (Nat.not_lt_zero k), hVa.2.1, hVa.2.2⟩, hFa, hCa, hWy⟩, hms⟩
  · rcases hx1 with hx | hx
    · rw [hid hx]; exact s3 b hb
    · rw [hC_o _ (by omega)]; exact s3 b hb
  · refine pf.1 p c' ?_
    rcases hp with hp | hp | hp | hp | ⟨j, hj, y1, y2⟩ | hp
    · exact Or.inl hp
    · exact Or.inr (Or.inl hp)
    · exact Or.inr (Or.inr (Or.inl hp))
    · exact Or.inr (Or.inr (Or.inr (Or.inl hp)))
    · exact absurd hj (Nat.not_lt_zero j)
    · exact Or.inr (Or.inr (Or.inr (Or.inr (Or.inr hp))))
  · have hb' : 4 ≤ (g.2.2.2.1 b).1 := hb
    rcases pf.2.2 b hb with hp | hp | hp | hp | ⟨j, hj, y1, y2⟩ | hp
    · exact Or.inl hp
    · exact Or.inr (Or.inl hp)
    · exact Or.inr (Or.inr (Or.inl hp))
    · exact Or.inr (Or.inr (Or.inr (Or.inl hp)))
    · rw [y2] at hb'
      exact absurd hb' (by decide)
    · exact Or.inr (Or.inr (Or.inr (Or.inr (Or.inr hp))))
  · have b2' : b < h.1 := b2
    have hoc := hC' b b1 b2'
    by_cases hb : b = x.2 1
    · subst hb
      obtain ⟨e1, e2, e3, -, -, -, e4, -⟩ := hel (ref_el (q := 1) (by decide) (by decide) (show x.2 1 ≠ 1 by omega))
      rw [hC_s]
      have e3' : (gL g 0 0 0).2.2.2.1 (x.2 1) = (4, 1) := e3
      refine cell_4 (by rw [e3']) ?_
      rw [e3']
      rw [e3] at e4
      obtain ⟨q1, q2, q3, q4⟩ := e4 rfl
      exact ⟨q1, Nat.zero_le _, q3, fun k hk => absurd hk (Nat.not_lt_zero k)⟩
    · rw [hC_o _ hb]
      obtain ⟨c1, c2, c3, c4, c5, c6, c7, c8, c9, c10, c11, c12, c13, c14, c15, c16, c17, c18⟩ := hoc
      refine ⟨c1, c2, c3, fun z => ?_, c5, c6, c7, c8, c9, c10, c11, c12, c13, c14, c15, c16, c17, c18⟩
      have z' : (g.2.2.2.1 b).1 = 4 := z
      have hr := pf.2.2 b (by omega)
      have hg : g.2.2.2.1 b = (4, (g.2.2.2.1 b).2) := Prod.ext z' rfl
      rw [hg] at hr
      obtain ⟨k1, k2, k3, k4⟩ := el_q hr
      have hqq : (g.2.2.2.1 b).2 ≠ 1 := fun y => hb (by rw [k4, y]; rfl)
      have y := c4 z
      show cEl ((gL g 0 0 0).1 0 ((g.2.2.2.1 b).2 - 1)) ((gL g 0 0 0).1 (g.2.2.2.1 b).2) _
      have e1 : (gL g 0 0 0).1 0 ((g.2.2.2.1 b).2 - 1) = g.1 0 ((g.2.2.2.1 b).2 - 1) := upN_n _ _ (by omega)
      have e2 : (gL g 0 0 0).1 (g.2.2.2.1 b).2 = g.1 (g.2.2.2.1 b).2 := upN_n _ _ (by omega)
      rw [e1, e2]
      exact y
  · rcases bk with ⟨k1, k2⟩ | k1
    · refine Or.inl ⟨k1, fun j hj => ?_⟩
      rcases hx1 with hx | hx
      · rw [hid hx]; exact k2 j hj
      · rw [hC_o _ (by omega)]; exact k2 j hj
    · exact Or.inr k1
  · obtain ⟨t1, t2, t3, t4⟩ := ft
    refine ⟨?_, fun k hk => ?_, ?_, fun k hk => ?_⟩
    · unfold clX; rw [tI_ne _ _ (by omega)]; exact t1
    · unfold clX; rw [tI_ne _ _ (by omega)]; exact t2 k hk
    · unfold clX; rw [tI_ne _ _ (by omega)]; exact t3
    · unfold clX; rw [tI_ne _ _ (by omega)]; exact t4 k hk
  · by_cases hq : q = 1
    · subst hq
      exact ⟨tI_s _ _ _ _, fun _ => rfl⟩
    · obtain ⟨y1, y2⟩ := flx q q1 q2
      have e1 : (gL g 0 0 0).1 0 (q - 1) = g.1 0 (q - 1) := upN_n _ _ (by omega)
      rw [e1]
      refine ⟨?_, y2⟩
      unfold clX
      rw [tI_ne _ _ (by omega)]
      exact y1
  · obtain ⟨y1, y2, y3, y4⟩ := fx
    refine ⟨?_, ?_, ?_, ?_⟩
    · unfold clX; rw [tI_ne _ _ (by omega)]; exact y1
    · unfold clX; rw [tI_ne _ _ (by omega)]; exact y2
    · unfold clX; rw [tI_ne _ _ (by omega)]; exact y3
    · unfold clX; rw [tI_ne _ _ (by omega)]; exact y4
  · obtain ⟨c1, c2, c3, c4⟩ := hCnt
    exact ⟨c1, c2, ⟨rfl, Nat.zero_le _⟩, c4⟩
theorem nuF_0 (f : Nat → Value) : nuF f 0 = f := funext fun j => if_neg (by omega)
/-- the hand is emptied: the class -/
theorem x_clear (hh : 146 ≤ h.1) (hn : n ≤ 60) (n3 : x.1 19 2 = nI n) (l3 : (x.2 1 = 1 ∧ n = 0) ∨ 146 ≤ x.2 1) (l4 : x.2 1 < h.1) (l5 : n ≠ 0 → (h.2.2 (x.2 1)).1 = 24) (l6 : n ≤ (h.2.2 (x.2 1)).2.1) : Go (d + 1) 65 0 [.ref 19, mk0, mk0, mk0] [] (putR r0 (putX x h)) Q = Q none (putR r0 (putX (clX x) (hC h (x.2 1) (nuF (h.2.2 (x.2 1)).2.2 n)))) := by
  by_cases h0 : n = 0
  · subst h0
    rw [nuF_0, hC_i]
    have e : Go (d + 1) 65 27 [.ref 19, .ref (x.2 1), .int (nI 0), .int 0] [] (putR r0 (putX (clX x) h)) Q = Q none (putR r0 (putX (clX x) h)) := by
      simp (disch := first | exact c1_i _ | exact c1_r _ | exact c1_n | exact c1_m | omega | assumption | (apply ac_l; omega) | (apply ac_r; omega) | decide | exact Or.inl rfl) only [e_65_27, e_65_28, e_65_29, e_65_42, Option.toList_some, Option.toList_none, List.cons_append, List.nil_append, catS_cons, catS_nil, cat_int, cat_long, cat_ref, cat_null, c1_i, c1_r, c1_n, c1_m, true_and, and_true, and_self, putR_1, putR_u, eq_self, Nat.reduceLT, Nat.reduceLeDiff, Nat.reduceAdd, Nat.reduceEqDiff, vk_i, vk_l, vk_r, vk_n, vk_0, vk_1, if_true, if_false, not_true_eq_false, not_false_eq_true, false_and, and_false, ne_eq, true_or, or_true, ite_not, reduceCtorEq, putX_1, putX_u, putX_hi, hset_Xhi, px_5, xf_5_0, xf_5_1, xI_5_1, xf_5_2, xR_0, xf_5_3, xI_5_3, xf_5_4, xI_5_4, xf_5_5, xf_5_6, xI_5_6, xf_5_7, xf_5_8, xf_5_9, xf_5_10, xf_5_11, xf_5_12, xf_5_13, xf_5_14, xf_5_15, xI_5_15, px_6, xA_6, px_18, xA_18, px_19, xf_19_0, xI_19_0, xf_19_1, xR_1, xf_19_2, xI_19_2, px_20, xf_20_0, xI_20_0, xf_20_1, xR_2, xf_20_2, xI_20_2, px_21, xf_21_0, xI_21_0, xf_21_1, xR_3, xf_21_2, xI_21_2, px_22, xf_22_0, xI_22_0, xf_22_1, xR_4, xf_22_2, xI_22_2, px_23, xf_23_0, xI_23_0, xf_23_1, xR_5, xf_23_2, xI_23_2, px_24, xf_24_0, xI_24_0, xf_24_1, xR_6, xf_24_2, xI_24_2, px_25, xf_25_0, xI_25_0, xf_25_1, xI_25_1, xf_25_2, xf_25_3, xI_25_3, xf_25_4, xf_25_5, xf_25_6, px_26, xA_26, px_27, px_28, xA_28, px_29, xA_29, px_30, xA_30, px_31, xA_31, px_32, xA_32, px_33, xA_33, px_34, xA_34, px_35, xA_35, px_36, xA_36, px_37, xA_37, px_38, xA_38, px_39, xA_39, px_40, xA_40, px_41, xA_41, px_42, xA_42, px_43, xA_43, px_44, xA_44, px_45, xA_45, px_46, xA_46, px_47, xA_47, px_48, xA_48, px_49, xA_49, px_50, xA_50, px_51, xA_51, px_52, xA_52, px_53, xA_53, px_54, xA_54, px_55, xA_55, px_56, xA_56, px_57, xA_57, px_58, xA_58, px_59, xA_59, px_60, xA_60, px_61, xA_61, px_62, xA_62, px_63, xA_63, px_64, xA_64, px_65, xA_65, px_66, xA_66, px_67, xA_67, px_68, xA_68, px_69, xA_69, px_70, xf_70_0, xI_70_0, xf_70_1, xI_70_1, xf_70_2, xI_70_2, xf_70_3, xf_70_4, px_71, xA_71, px_72, xA_72, ni_ixL, ni_clL, ni_add, ni_mul, ni_lt, ni_le, ni_eq, ni_clamp, ni_ix, ni_lt0, ni_0le, ni_ltL, ni_Llt, ni_leL, ni_Lle, ni_eqL, ni_addL, ni_Ladd, ni_mulL, ni_Lmul, ni_subL, ni_sub, ni_Lsub, le_t, le_f, lt_t, lt_f, eq_f, il_lt, il_l0, il_g0, il_l1, il_g1, il_l2, il_g2, il_l3, il_g3, il_l4, il_g4, il_l5, il_g5, il_l7, il_g7, il_l8, il_g8, il_l9, il_g9, il_l10, il_g10, il_l15, il_g15, il_l20, il_g20, il_l23, il_g23, il_l24, il_g24, il_l60, il_g60, il_l100, il_g100, il_l999, il_g999, il_l1000, il_g1000, putR_lo, hset_lo, putR_lt hh, rd_hi, wr_hi, hs_1, hs_s, hs_o, uv_s, uv_o, pv_0, pv_n, i1_0, bs_0, bs_1, im_lt, im_ge, im_eq, ni_em]
    unfold clX at e ⊢
    refine Eq.trans ?_ e
    simp (disch := first | exact c1_i _ | exact c1_r _ | exact c1_n | exact c1_m | omega | assumption | (apply ac_l; omega) | (apply ac_r; omega) | decide | exact Or.inl rfl) only [e_65_0, e_65_0n, e_65_1, e_65_2, e_65_5, e_65_6, e_65_7, e_65_10, e_65_10n, e_65_11, e_65_14, e_65_14n, e_65_15, e_65_15n, e_65_16, e_65_19, e_65_20, e_65_20n, e_65_21, e_65_22, e_65_23, e_65_26, Option.toList_some, Option.toList_none, List.cons_append, List.nil_append, catS_cons, catS_nil, cat_int, cat_long, cat_ref, cat_null, c1_i, c1_r, c1_n, c1_m, true_and, and_true, and_self, putR_1, putR_u, eq_self, Nat.reduceLT, Nat.reduceLeDiff, Nat.reduceAdd, Nat.reduceEqDiff, vk_i, vk_l, vk_r, vk_n, vk_0, vk_1, if_true, if_false, not_true_eq_false, not_false_eq_true, false_and, and_false, ne_eq, true_or, or_true, ite_not, reduceCtorEq, putX_1, putX_u, putX_hi, hset_Xhi, px_5, xf_5_0, xf_5_1, xI_5_1, xf_5_2, xR_0, xf_5_3, xI_5_3, xf_5_4, xI_5_4, xf_5_5, xf_5_6, xI_5_6, xf_5_7, xf_5_8, xf_5_9, xf_5_10, xf_5_11, xf_5_12, xf_5_13, xf_5_14, xf_5_15, xI_5_15, px_6, xA_6, px_18, xA_18, px_19, xf_19_0, xI_19_0, xf_19_1, xR_1, xf_19_2, xI_19_2, px_20, xf_20_0, xI_20_0, xf_20_1, xR_2, xf_20_2, xI_20_2, px_21, xf_21_0, xI_21_0, xf_21_1, xR_3, xf_21_2, xI_21_2, px_22, xf_22_0, xI_22_0, xf_22_1, xR_4, xf_22_2, xI_22_2, px_23, xf_23_0, xI_23_0, xf_23_1, xR_5, xf_23_2, xI_23_2, px_24, xf_24_0, xI_24_0, xf_24_1, xR_6, xf_24_2, xI_24_2, px_25, xf_25_0, xI_25_0, xf_25_1, xI_25_1, xf_25_2, xf_25_3, xI_25_3, xf_25_4, xf_25_5, xf_25_6, px_26, xA_26, px_27, px_28, xA_28, px_29, xA_29, px_30, xA_30, px_31, xA_31, px_32, xA_32, px_33, xA_33, px_34, xA_34, px_35, xA_35, px_36, xA_36, px_37, xA_37, px_38, xA_38, px_39, xA_39, px_40, xA_40, px_41, xA_41, px_42, xA_42, px_43, xA_43, px_44, xA_44, px_45, xA_45, px_46, xA_46, px_47, xA_47, px_48, xA_48, px_49, xA_49, px_50, xA_50, px_51, xA_51, px_52, xA_52, px_53, xA_53, px_54, xA_54, px_55, xA_55, px_56, xA_56, px_57, xA_57, px_58, xA_58, px_59, xA_59, px_60, xA_60, px_61, xA_61, px_62, xA_62, px_63, xA_63, px_64, xA_64, px_65, xA_65, px_66, xA_66, px_67, xA_67, px_68, xA_68, px_69, xA_69, px_70, xf_70_0, xI_70_0, xf_70_1, xI_70_1, xf_70_2, xI_70_2, xf_70_3, xf_70_4, px_71, xA_71, px_72, xA_72, ni_ixL, ni_clL, ni_add, ni_mul, ni_lt, ni_le, ni_eq, ni_clamp, ni_ix, ni_lt0, ni_0le, ni_ltL, ni_Llt, ni_leL, ni_Lle, ni_eqL, ni_addL, ni_Ladd, ni_mulL, ni_Lmul, ni_subL, ni_sub, ni_Lsub, le_t, le_f, lt_t, lt_f, eq_f, il_lt, il_l0, il_g0, il_l1, il_g1, il_l2, il_g2, il_l3, il_g3, il_l4, il_g4, il_l5, il_g5, il_l7, il_g7, il_l8, il_g8, il_l9, il_g9, il_l10, il_g10, il_l15, il_g15, il_l20, il_g20, il_l23, il_g23, il_l24, il_g24, il_l60, il_g60, il_l100, il_g100, il_l999, il_g999, il_l1000, il_g1000, putR_lo, hset_lo, putR_lt hh, rd_hi, wr_hi, hs_1, hs_s, hs_o, uv_s, uv_o, pv_0, pv_n, i1_0, bs_0, bs_1, im_lt, im_ge, im_eq, ni_em, n3, tI_s, tI_k, tI_2]
  · have he : 146 ≤ x.2 1 := by
      rcases l3 with l3 | l3
      · exact absurd l3.2 h0
      · exact l3
    have e := l_clear (n := n) (d := d) (r0 := r0) (x1 := clX x) (Q := Q) (f := (h.2.2 (x.2 1)).2.2) hh he l4 (l5 h0) l6 hn n 0 (by omega)
    rw [nuF_0, hC_i] at e
    refine Eq.trans ?_ e
    unfold clX
    simp (disch := first | exact c1_i _ | exact c1_r _ | exact c1_n | exact c1_m | omega | assumption | (apply ac_l; omega) | (apply ac_r; omega) | decide | exact Or.inl rfl) only [e_65_0, e_65_0n, e_65_1, e_65_2, e_65_5, e_65_6, e_65_7, e_65_10, e_65_10n, e_65_11, e_65_14, e_65_14n, e_65_15, e_65_15n, e_65_16, e_65_19, e_65_20, e_65_20n, e_65_21, e_65_22, e_65_23, e_65_26, Option.toList_some, Option.toList_none, List.cons_append, List.nil_append, catS_cons, catS_nil, cat_int, cat_long, cat_ref, cat_null, c1_i, c1_r, c1_n, c1_m, true_and, and_true, and_self, putR_1, putR_u, eq_self, Nat.reduceLT, Nat.reduceLeDiff, Nat.reduceAdd, Nat.reduceEqDiff, vk_i, vk_l, vk_r, vk_n, vk_0, vk_1, if_true, if_false, not_true_eq_false, not_false_eq_true, false_and, and_false, ne_eq, true_or, or_true, ite_not, reduceCtorEq, putX_1, putX_u, putX_hi, hset_Xhi, px_5, xf_5_0, xf_5_1, xI_5_1, xf_5_2, xR_0, xf_5_3, xI_5_3, xf_5_4, xI_5_4, xf_5_5, xf_5_6, xI_5_6, xf_5_7, xf_5_8, xf_5_9, xf_5_10, xf_5_11, xf_5_12, xf_5_13, xf_5_14, xf_5_15, xI_5_15, px_6, xA_6, px_18, xA_18, px_19, xf_19_0, xI_19_0, xf_19_1, xR_1, xf_19_2, xI_19_2, px_20, xf_20_0, xI_20_0, xf_20_1, xR_2, xf_20_2, xI_20_2, px_21, xf_21_0, xI_21_0, xf_21_1, xR_3, xf_21_2, xI_21_2, px_22, xf_22_0, xI_22_0, xf_22_1, xR_4, xf_22_2, xI_22_2, px_23, xf_23_0, xI_23_0, xf_23_1, xR_5, xf_23_2, xI_23_2, px_24, xf_24_0, xI_24_0, xf_24_1, xR_6, xf_24_2, xI_24_2, px_25, xf_25_0, xI_25_0, xf_25_1, xI_25_1, xf_25_2, xf_25_3, xI_25_3, xf_25_4, xf_25_5, xf_25_6, px_26, xA_26, px_27, px_28, xA_28, px_29, xA_29, px_30, xA_30, px_31, xA_31, px_32, xA_32, px_33, xA_33, px_34, xA_34, px_35, xA_35, px_36, xA_36, px_37, xA_37, px_38, xA_38, px_39, xA_39, px_40, xA_40, px_41, xA_41, px_42, xA_42, px_43, xA_43, px_44, xA_44, px_45, xA_45, px_46, xA_46, px_47, xA_47, px_48, xA_48, px_49, xA_49, px_50, xA_50, px_51, xA_51, px_52, xA_52, px_53, xA_53, px_54, xA_54, px_55, xA_55, px_56, xA_56, px_57, xA_57, px_58, xA_58, px_59, xA_59, px_60, xA_60, px_61, xA_61, px_62, xA_62, px_63, xA_63, px_64, xA_64, px_65, xA_65, px_66, xA_66, px_67, xA_67, px_68, xA_68, px_69, xA_69, px_70, xf_70_0, xI_70_0, xf_70_1, xI_70_1, xf_70_2, xI_70_2, xf_70_3, xf_70_4, px_71, xA_71, px_72, xA_72, ni_ixL, ni_clL, ni_add, ni_mul, ni_lt, ni_le, ni_eq, ni_clamp, ni_ix, ni_lt0, ni_0le, ni_ltL, ni_Llt, ni_leL, ni_Lle, ni_eqL, ni_addL, ni_Ladd, ni_mulL, ni_Lmul, ni_subL, ni_sub, ni_Lsub, le_t, le_f, lt_t, lt_f, eq_f, il_lt, il_l0, il_g0, il_l1, il_g1, il_l2, il_g2, il_l3, il_g3, il_l4, il_g4, il_l5, il_g5, il_l7, il_g7, il_l8, il_g8, il_l9, il_g9, il_l10, il_g10, il_l15, il_g15, il_l20, il_g20, il_l23, il_g23, il_l24, il_g24, il_l60, il_g60, il_l100, il_g100, il_l999, il_g999, il_l1000, il_g1000, putR_lo, hset_lo, putR_lt hh, rd_hi, wr_hi, hs_1, hs_s, hs_o, uv_s, uv_o, pv_0, pv_n, i1_0, bs_0, bs_1, im_lt, im_ge, im_eq, ni_em, n3, tI_s, tI_k, tI_2]
    rfl
end
