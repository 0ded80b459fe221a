/-! the values of a message -/
section
variable {K : Nat → pcell} {tb : Nat} {g g' g0 g1 g2 : gS} {r r' r0 v v' : rS} {x x' x0 x1 : xS} {h h' h0 h1 : pheap} {d : Nat} {Q : Option Value → pheap → Prop} {a n k m rc b L n0 p q j t c c2 c3 no A ce T Dn N i ar sa D : Nat} {F fs sr : Nat → Int32} {l l' : List Nat} {s z : Int32} {w u : Int64} {os fc as : Nat → Nat} {P G : Nat → Prop}
/-- a cell that is nothing's, old -/
theorem cb_base (hc : CB K tb g0 x0 h0 b L F n0 j g v x h) (h1 : 146 ≤ a) (h2 : a < h0.1) (hr : g0.2.2.2.1 a = (0, 0)) (k : Nat) (w : Value) : CB K tb g0 x0 (hset h0 a k w) b L F n0 j g v x (hset h a k w) := by
  obtain ⟨c1, c2, c3, c4, c6, ⟨c7, c8⟩, c9, ⟨c10, c11, c12⟩, c13, c14, ⟨d1, d2, d3, d4, d5⟩⟩ := hc
  have n1 : b ≠ a := fun y => by rw [y, hr] at d4; cases d4
  have n2 : b + 2 ≠ a := fun y => by rw [y, hr] at d5; cases d5
  have hra : g.2.2.2.1 a = (0, 0) := (c9 a h2 (by rw [hr]; exact fun y => by cases y)).1.trans hr
  have eb : (hset h a k w).2.2 b = h.2.2 b := hs_o _ _ n1
  have e0 : (hset h0 a k w).2.2 b = h0.2.2 b := hs_o _ _ n1
  refine ⟨⟨sim_junk c1.1 hra h1 _ _, c1.2⟩, rd_c c2 (Nat.le_refl _) eb (hs_o _ _ n2), by rw [eb]; exact c3, c4, c6, ⟨c7, c8⟩, fun y hy h4 => ?_, ⟨by rw [eb, e0]; exact c10, by rw [eb, e0]; exact c11, by rw [eb, e0]; exact c12⟩, c13, c14, ⟨d1, d2, d3, d4, d5⟩⟩
  obtain ⟨z1, z2, z3, z4⟩ := c9 y hy h4
  refine ⟨z1, z2, z3, fun hab => ?_⟩
  by_cases e : y = a
  · subst e
    have e := z4 hab
    rw [hs_s, hs_s, e]
  · rw [hs_o _ _ e, hs_o _ _ e]
    exact z4 hab
/-- the values read so far -/
def AVl (g : gS) (h : pheap) (ar N i : Nat) (as : Nat → Nat) (sr : Nat → Int32) : Prop := ((h.2.2 ar).1 = 25 ∧ (h.2.2 ar).2.1 = N) ∧ ∀ k, k < i → (h.2.2 ar).2.2 k = .ref (as k) ∧ okP g.2.2.2.1 h.1 (as k) (1, 0) ∧ (g.2.1 (as k)).1 = sr k
theorem avl_s (ha : AVl g h ar N i as sr) (h1 : h'.2.2 ar = h.2.2 ar) (h2 : h.1 ≤ h'.1) (hf : FRv g' g h.1) (ha' : okP g'.2.2.2.1 h'.1 a (1, 0)) (hs : (g'.2.1 a).1 = sr i) : AVl g' (hset h' ar i (.ref a)) ar N (i + 1) (upN as i a) sr := by
  obtain ⟨⟨a1, a2⟩, a3⟩ := ha
  refine ⟨⟨by rw [hs_s, h1]; exact a1, by rw [hs_s, h1]; exact a2⟩, fun k hk => ?_⟩
  by_cases e : k = i
  · subst e
    rw [upN_s, hs_s]
    exact ⟨uv_s _ _ _, ha', hs⟩
  · obtain ⟨y1, ⟨y2, y3, y4⟩, y5⟩ := a3 k (by omega)
    obtain ⟨f1, f2, -⟩ := hf (as k) y3 (by rw [y4]; exact Or.inl rfl)
    rw [upN_n _ _ e, hs_s, h1]
    refine ⟨?_, ⟨y2, ?_, f1.trans y4⟩, by rw [f2]; exact y5⟩
    · show updV _ i _ k = _
      rw [uv_o _ _ e]
      exact y1
    · show as k < h'.1
      omega
/-- the rows that come has: the sorts, and the values -/
def CM (g0 : gS) (h0 : pheap) (ar sa N : Nat) (sr : Nat → Int32) : Prop := (146 ≤ ar ∧ ar < h0.1 ∧ g0.2.2.2.1 ar = (0, 0)) ∧ (146 ≤ sa ∧ sa < h0.1 ∧ g0.2.2.2.1 sa = (0, 0)) ∧ ((h0.2.2 sa).1 = 20 ∧ (h0.2.2 sa).2.1 = N ∧ ∀ k, k < N → (h0.2.2 sa).2.2 k = .int (sr k)) ∧ N ≤ 3 ∧ ar ≠ sa
theorem cm_b (hm : CM g0 h0 ar sa N sr) (k : Nat) (w : Value) : CM g0 (hset h0 ar k w) ar sa N sr := by
  obtain ⟨a1, a2, a3, a4, a5⟩ := hm
  exact ⟨a1, a2, by rw [hs_o _ _ (Ne.symm a5)]; exact a3, a4, a5⟩
theorem cb_o (hc : CB K tb g0 x0 h0 b L F n0 j g v x h) (h2 : a < h0.1) (hr : g0.2.2.2.1 a = (0, 0)) : h.2.2 a = h0.2.2 a ∧ g.2.2.2.1 a = (0, 0) := by
  obtain ⟨c1, c2, c3, c4, c6, ⟨c7, c8⟩, c9, ⟨c10, c11, c12⟩, c13, c14, ⟨d1, d2, d3, d4, d5⟩⟩ := hc
  obtain ⟨y1, -, -, y4⟩ := c9 a h2 (by rw [hr]; exact fun y => by cases y)
  exact ⟨y4 (fun y => by rw [y, d4] at hr; cases hr), y1.trans hr⟩
/-- come reads a value -/
theorem x_cmF (hh : 146 ≤ h.1) (hsa : 146 ≤ sa ∧ sa < h.1 ∧ (h.2.2 sa).1 = 20 ∧ (h.2.2 sa).2.1 = N ∧ (h.2.2 sa).2.2 i = .int (sr i)) (hi : i < N) (hN : N ≤ 3) (t6 : (h.2.2 b).1 = 6) (hb : 146 ≤ b ∧ b < h.1) (hh' : 146 ≤ h'.1) (h25 : 146 ≤ ar ∧ ar < h'.1 ∧ (h'.2.2 ar).1 = 25 ∧ (h'.2.2 ar).2.1 = N) (ha : 146 ≤ a ∧ a < h'.1) (t9 : (h'.2.2 a).1 = 9) (hrun : ∀ Q, Go d 144 0 [.ref b, .int (sr i), .ref (x.2 0), .ref 20, mk0, mk0, mk0, mk0] [] (putR r0 (putX x h)) Q = Q (some (.ref a)) (putR r0 (putX x' h'))) : Go (d + 1) 143 25 [.ref 5, .ref D, .ref b, .ref sa, .int (nI n0), .ref ar, .int (nI i)] [] (putR r0 (putX x h)) Q = Go (d + 1) 143 25 [.ref 5, .ref D, .ref b, .ref sa, .int (nI n0), .ref ar, .int (nI (i + 1))] [] (putR r0 (putX x' (hset h' ar i (.ref a)))) Q := by
  obtain ⟨s1, s2, s3, s4, s5⟩ := hsa
  obtain ⟨b1, b2⟩ := hb
  obtain ⟨r1, r2, r3, r4⟩ := h25
  obtain ⟨ha1, ha2⟩ := ha
  have haa := aas25 (r := r0) (x := x') (h := h') (b := a) ha1 ha2 t9
  rw [e_143_25]
  simp (disch := first | exact c1_i _ | exact c1_r _ | exact c1_n | exact c1_m | omega | assumption | (simp only [hn_1, hs_1, hC_1]; omega) | (apply ac_l; omega) | (apply ac_r; omega) | decide | exact Or.inl rfl) only [e_143_27, e_143_27n, e_143_28, e_143_29, e_143_32, e_143_32n, e_143_34, e_143_36, e_143_36n, e_143_37, e_143_37n, e_143_38, e_143_40, e_143_41, e_143_41n, e_143_42, e_143_45, e_143_45n, e_143_46, e_143_49, e_143_52, e_143_53, e_143_56, Option.toList_some, Option.toList_none, List.cons_append, List.nil_append, catS_cons, catS_nil, cat_int, cat_long, cat_ref, cat_null, c1_i, c1_r, c1_n, c1_m, true_and, and_true, and_self, putR_1, putR_u, eq_self, Nat.reduceLT, Nat.reduceLeDiff, Nat.reduceAdd, Nat.reduceEqDiff, vk_i, vk_l, vk_r, vk_n, vk_0, vk_1, if_true, if_false, not_true_eq_false, not_false_eq_true, false_and, and_false, ne_eq, true_or, or_true, ite_not, reduceCtorEq, putX_1, putX_u, putX_hi, hset_Xhi, px_5, xf_5_0, xf_5_1, xI_5_1, xf_5_2, xR_0, xf_5_3, xI_5_3, xf_5_4, xI_5_4, xf_5_5, xf_5_6, xI_5_6, xf_5_7, xf_5_8, xf_5_9, xf_5_10, xf_5_11, xf_5_12, xf_5_13, xf_5_14, xf_5_15, xI_5_15, px_6, xA_6, px_18, xA_18, px_19, xf_19_0, xI_19_0, xf_19_1, xR_1, xf_19_2, xI_19_2, px_20, xf_20_0, xI_20_0, xf_20_1, xR_2, xf_20_2, xI_20_2, px_21, xf_21_0, xI_21_0, xf_21_1, xR_3, xf_21_2, xI_21_2, px_22, xf_22_0, xI_22_0, xf_22_1, xR_4, xf_22_2, xI_22_2, px_23, xf_23_0, xI_23_0, xf_23_1, xR_5, xf_23_2, xI_23_2, px_24, xf_24_0, xI_24_0, xf_24_1, xR_6, xf_24_2, xI_24_2, px_25, xf_25_0, xI_25_0, xf_25_1, xI_25_1, xf_25_2, xf_25_3, xI_25_3, xf_25_4, xf_25_5, xf_25_6, px_26, xA_26, px_27, px_28, xA_28, px_29, xA_29, px_30, xA_30, px_31, xA_31, px_32, xA_32, px_33, xA_33, px_34, xA_34, px_35, xA_35, px_36, xA_36, px_37, xA_37, px_38, xA_38, px_39, xA_39, px_40, xA_40, px_41, xA_41, px_42, xA_42, px_43, xA_43, px_44, xA_44, px_45, xA_45, px_46, xA_46, px_47, xA_47, px_48, xA_48, px_49, xA_49, px_50, xA_50, px_51, xA_51, px_52, xA_52, px_53, xA_53, px_54, xA_54, px_55, xA_55, px_56, xA_56, px_57, xA_57, px_58, xA_58, px_59, xA_59, px_60, xA_60, px_61, xA_61, px_62, xA_62, px_63, xA_63, px_64, xA_64, px_65, xA_65, px_66, xA_66, px_67, xA_67, px_68, xA_68, px_69, xA_69, px_70, xf_70_0, xI_70_0, xf_70_1, xI_70_1, xf_70_2, xI_70_2, xf_70_3, xf_70_4, px_71, xA_71, px_72, xA_72, ni_ixL, ni_clL, ni_add, ni_mul, ni_lt, ni_le, ni_eq, ni_clamp, ni_ix, ni_lt0, ni_0le, ni_ltL, ni_Llt, ni_leL, ni_Lle, ni_eqL, ni_addL, ni_Ladd, ni_mulL, ni_Lmul, ni_subL, ni_sub, ni_Lsub, le_t, le_f, lt_t, lt_f, eq_f, il_lt, il_l0, il_g0, il_l1, il_g1, il_l2, il_g2, il_l3, il_g3, il_l4, il_g4, il_l5, il_g5, il_l7, il_g7, il_l8, il_g8, il_l9, il_g9, il_l10, il_g10, il_l15, il_g15, il_l20, il_g20, il_l23, il_g23, il_l24, il_g24, il_l60, il_g60, il_l100, il_g100, il_l999, il_g999, il_l1000, il_g1000, putR_lo, hset_lo, putR_lt hh, rd_hi, wr_hi, hs_1, hs_s, hs_o, uv_s, uv_o, pv_0, pv_n, i1_0, bs_0, bs_1, im_lt, im_ge, im_eq, ni_em, nw_hi, hn_1, hn_s, hn_o, ni_Ll0, putR_lt hh', s3, s4, s5, t6, hrun, r3, r4, haa]
theorem x_cmE (hh : 146 ≤ h.1) (hN : N ≤ 3) (hsa : 146 ≤ sa ∧ sa < h.1 ∧ (h.2.2 sa).1 = 20 ∧ (h.2.2 sa).2.1 = N) : Go (d + 1) 143 25 [.ref 5, .ref D, .ref b, .ref sa, .int (nI n0), .ref ar, .int (nI N)] [] (putR r0 (putX x h)) Q = Go (d + 1) 143 59 [.ref 5, .ref D, .ref b, .ref sa, .int (nI n0), .ref ar, .int (nI N)] [] (putR r0 (putX x h)) Q := by
  obtain ⟨s1, s2, s3, s4⟩ := hsa
  rw [e_143_25]
  simp (disch := first | exact c1_i _ | exact c1_r _ | exact c1_n | exact c1_m | omega | assumption | (simp only [hn_1, hs_1, hC_1]; omega) | (apply ac_l; omega) | (apply ac_r; omega) | decide | exact Or.inl rfl) only [e_143_27, e_143_27n, e_143_28, e_143_29, Option.toList_some, Option.toList_none, List.cons_append, List.nil_append, catS_cons, catS_nil, cat_int, cat_long, cat_ref, cat_null, c1_i, c1_r, c1_n, c1_m, true_and, and_true, and_self, putR_1, putR_u, eq_self, Nat.reduceLT, Nat.reduceLeDiff, Nat.reduceAdd, Nat.reduceEqDiff, vk_i, vk_l, vk_r, vk_n, vk_0, vk_1, if_true, if_false, not_true_eq_false, not_false_eq_true, false_and, and_false, ne_eq, true_or, or_true, ite_not, reduceCtorEq, putX_1, putX_u, putX_hi, hset_Xhi, px_5, xf_5_0, xf_5_1, xI_5_1, xf_5_2, xR_0, xf_5_3, xI_5_3, xf_5_4, xI_5_4, xf_5_5, xf_5_6, xI_5_6, xf_5_7, xf_5_8, xf_5_9, xf_5_10, xf_5_11, xf_5_12, xf_5_13, xf_5_14, xf_5_15, xI_5_15, px_6, xA_6, px_18, xA_18, px_19, xf_19_0, xI_19_0, xf_19_1, xR_1, xf_19_2, xI_19_2, px_20, xf_20_0, xI_20_0, xf_20_1, xR_2, xf_20_2, xI_20_2, px_21, xf_21_0, xI_21_0, xf_21_1, xR_3, xf_21_2, xI_21_2, px_22, xf_22_0, xI_22_0, xf_22_1, xR_4, xf_22_2, xI_22_2, px_23, xf_23_0, xI_23_0, xf_23_1, xR_5, xf_23_2, xI_23_2, px_24, xf_24_0, xI_24_0, xf_24_1, xR_6, xf_24_2, xI_24_2, px_25, xf_25_0, xI_25_0, xf_25_1, xI_25_1, xf_25_2, xf_25_3, xI_25_3, xf_25_4, xf_25_5, xf_25_6, px_26, xA_26, px_27, px_28, xA_28, px_29, xA_29, px_30, xA_30, px_31, xA_31, px_32, xA_32, px_33, xA_33, px_34, xA_34, px_35, xA_35, px_36, xA_36, px_37, xA_37, px_38, xA_38, px_39, xA_39, px_40, xA_40, px_41, xA_41, px_42, xA_42, px_43, xA_43, px_44, xA_44, px_45, xA_45, px_46, xA_46, px_47, xA_47, px_48, xA_48, px_49, xA_49, px_50, xA_50, px_51, xA_51, px_52, xA_52, px_53, xA_53, px_54, xA_54, px_55, xA_55, px_56, xA_56, px_57, xA_57, px_58, xA_58, px_59, xA_59, px_60, xA_60, px_61, xA_61, px_62, xA_62, px_63, xA_63, px_64, xA_64, px_65, xA_65, px_66, xA_66, px_67, xA_67, px_68, xA_68, px_69, xA_69, px_70, xf_70_0, xI_70_0, xf_70_1, xI_70_1, xf_70_2, xI_70_2, xf_70_3, xf_70_4, px_71, xA_71, px_72, xA_72, ni_ixL, ni_clL, ni_add, ni_mul, ni_lt, ni_le, ni_eq, ni_clamp, ni_ix, ni_lt0, ni_0le, ni_ltL, ni_Llt, ni_leL, ni_Lle, ni_eqL, ni_addL, ni_Ladd, ni_mulL, ni_Lmul, ni_subL, ni_sub, ni_Lsub, le_t, le_f, lt_t, lt_f, eq_f, il_lt, il_l0, il_g0, il_l1, il_g1, il_l2, il_g2, il_l3, il_g3, il_l4, il_g4, il_l5, il_g5, il_l7, il_g7, il_l8, il_g8, il_l9, il_g9, il_l10, il_g10, il_l15, il_g15, il_l20, il_g20, il_l23, il_g23, il_l24, il_g24, il_l60, il_g60, il_l100, il_g100, il_l999, il_g999, il_l1000, il_g1000, putR_lo, hset_lo, putR_lt hh, rd_hi, wr_hi, hs_1, hs_s, hs_o, uv_s, uv_o, pv_0, pv_n, i1_0, bs_0, bs_1, im_lt, im_ge, im_eq, ni_em, nw_hi, hn_1, hn_s, hn_o, ni_Ll0, s3, s4]
end
