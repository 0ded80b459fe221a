section
variable {K : Nat → pcell} {tb : Nat} {g g' g0 g1 g2 : gS} {r r' r0 v v' R : rS} {x x' x0 x1 : xS} {h h' h0 h1 : pheap} {d : Nat} {Q : Option Value → pheap → Prop} {a n k m rc b L n0 p q j t c c2 c3 no A ce ce0 T Dn N i ar sa D o e : Nat} {F fs sr w : Nat → Int32} {l l' : List Nat} {s z : Int32} {os fc as nd : Nat → Nat} {S S' : Nat → Prop}
/-- nodes are taken off the list -/
def RMv (x' x : xS) (h' h : pheap) (n0 : Nat) : Prop := (∀ a k, a ≠ 20 → x'.1 a k = x.1 a k) ∧ x'.1 20 2 = nI n0 ∧ x'.2 = x.2 ∧ h'.1 = h.1 ∧ h'.2.1 = h.2.1 ∧ (∀ a, (a = x.2 2 → x.2 2 = 1) → h'.2.2 a = h.2.2 a) ∧ (x.2 2 ≠ 1 → (h'.2.2 (x.2 2)).1 = (h.2.2 (x.2 2)).1 ∧ (h'.2.2 (x.2 2)).2.1 = (h.2.2 (x.2 2)).2.1 ∧ ∀ k, k < n0 → (h'.2.2 (x.2 2)).2.2 k = (h.2.2 (x.2 2)).2.2 k)
theorem l_rem : ∀ t x h I, I + 1 = nI (n0 + t) → n0 + t ≤ 60 → x.1 20 2 = nI (n0 + t) → 146 ≤ h.1 → (t ≠ 0 → 146 ≤ x.2 2 ∧ x.2 2 < h.1 ∧ (h.2.2 (x.2 2)).1 = 24 ∧ n0 + t ≤ (h.2.2 (x.2 2)).2.1 ∧ (h.2.2 (x.2 2)).2.1 ≤ 1000 ∧ ∀ k, k < n0 + t → (h.2.2 (x.2 2)).2.2 k = .ref (nd k)) → ∃ x' h', RMv x' x h' h n0 ∧ ∀ d r0 Q, Go (d + 4) 143 77 [.ref 5, .ref D, .ref b, .ref sa, .int (nI n0), .ref ar, .int I] [] (putR r0 (putX x h)) Q = Q (some .null) (putR r0 (putX x' h'))
  | 0, x, h, I, hI, h60, hx, hh, he => by
    refine ⟨x, h, ⟨fun _ _ _ => rfl, hx, rfl, rfl, rfl, fun _ _ => rfl, fun _ => ⟨rfl, rfl, fun _ _ => rfl⟩⟩, fun d r0 Q => ?_⟩
    have e : I = nI n0 - 1 := by
      rw [Nat.add_zero] at hI
      rw [← hI, Int32.add_sub_cancel]
    have hlt : I < nI n0 := by
      rw [Int32.lt_iff_toInt_lt, e, ni_pred (by omega), ni_int (by omega)]
      omega
    rw [e_143_77]
    simp (disch := first | exact c1_i _ | exact c1_r _ | exact c1_n | exact c1_m | omega | assumption | (apply ac_l; omega) | (apply ac_r; omega) | decide | exact Or.inl rfl) only [e_143_79, e_143_81, e_143_100, e_143_101, e_143_101n, Option.toList_some, Option.toList_none, List.cons_append, List.nil_append, catS_cons, catS_nil, cat_int, cat_long, cat_ref, cat_null, c1_i, c1_r, c1_n, c1_m, true_and, and_true, and_self, putR_1, putR_u, eq_self, Nat.reduceLT, Nat.reduceLeDiff, Nat.reduceAdd, Nat.reduceEqDiff, vk_i, vk_l, vk_r, vk_n, vk_0, vk_1, if_true, if_false, not_true_eq_false, not_false_eq_true, false_and, and_false, ne_eq, true_or, or_true, ite_not, reduceCtorEq, putX_1, putX_u, putX_hi, hset_Xhi, px_5, xf_5_0, xf_5_1, xI_5_1, xf_5_2, xR_0, xf_5_3, xI_5_3, xf_5_4, xI_5_4, xf_5_5, xf_5_6, xI_5_6, xf_5_7, xf_5_8, xf_5_9, xf_5_10, xf_5_11, xf_5_12, xf_5_13, xf_5_14, xf_5_15, xI_5_15, px_6, xA_6, px_18, xA_18, px_19, xf_19_0, xI_19_0, xf_19_1, xR_1, xf_19_2, xI_19_2, px_20, xf_20_0, xI_20_0, xf_20_1, xR_2, xf_20_2, xI_20_2, px_21, xf_21_0, xI_21_0, xf_21_1, xR_3, xf_21_2, xI_21_2, px_22, xf_22_0, xI_22_0, xf_22_1, xR_4, xf_22_2, xI_22_2, px_23, xf_23_0, xI_23_0, xf_23_1, xR_5, xf_23_2, xI_23_2, px_24, xf_24_0, xI_24_0, xf_24_1, xR_6, xf_24_2, xI_24_2, px_25, xf_25_0, xI_25_0, xf_25_1, xI_25_1, xf_25_2, xf_25_3, xI_25_3, xf_25_4, xf_25_5, xf_25_6, px_26, xA_26, px_27, px_28, xA_28, px_29, xA_29, px_30, xA_30, px_31, xA_31, px_32, xA_32, px_33, xA_33, px_34, xA_34, px_35, xA_35, px_36, xA_36, px_37, xA_37, px_38, xA_38, px_39, xA_39, px_40, xA_40, px_41, xA_41, px_42, xA_42, px_43, xA_43, px_44, xA_44, px_45, xA_45, px_46, xA_46, px_47, xA_47, px_48, xA_48, px_49, xA_49, px_50, xA_50, px_51, xA_51, px_52, xA_52, px_53, xA_53, px_54, xA_54, px_55, xA_55, px_56, xA_56, px_57, xA_57, px_58, xA_58, px_59, xA_59, px_60, xA_60, px_61, xA_61, px_62, xA_62, px_63, xA_63, px_64, xA_64, px_65, xA_65, px_66, xA_66, px_67, xA_67, px_68, xA_68, px_69, xA_69, px_70, xf_70_0, xI_70_0, xf_70_1, xI_70_1, xf_70_2, xI_70_2, xf_70_3, xf_70_4, px_71, xA_71, px_72, xA_72, ni_ixL, ni_clL, ni_add, ni_mul, ni_lt, ni_le, ni_eq, ni_clamp, ni_ix, ni_lt0, ni_0le, ni_ltL, ni_Llt, ni_leL, ni_Lle, ni_eqL, ni_addL, ni_Ladd, ni_mulL, ni_Lmul, ni_subL, ni_sub, ni_Lsub, le_t, le_f, lt_t, lt_f, eq_f, il_lt, il_l0, il_g0, il_l1, il_g1, il_l2, il_g2, il_l3, il_g3, il_l4, il_g4, il_l5, il_g5, il_l7, il_g7, il_l8, il_g8, il_l9, il_g9, il_l10, il_g10, il_l15, il_g15, il_l20, il_g20, il_l23, il_g23, il_l24, il_g24, il_l60, il_g60, il_l100, il_g100, il_l999, il_g999, il_l1000, il_g1000, putR_lo, hset_lo, putR_lt hh, rd_hi, wr_hi, hs_1, hs_s, hs_o, uv_s, uv_o, pv_0, pv_n, i1_0, bs_0, bs_1, im_lt, im_ge, im_eq, ni_em, hlt]
  | t + 1, x, h, I, hI, h60, hx, hh, he => by
    obtain ⟨a1, a2, a3, a4, a5, a6⟩ := he (by omega)
    obtain rfl : I = nI (n0 + t) := by
      have : nI (n0 + t) + 1 = nI (n0 + (t + 1)) := ni_add _ 1
      rw [← this] at hI
      exact (Int32.add_left_inj 1).mp hI
    have a7 := a6 (n0 + t) (by omega)
    obtain ⟨x', h', ⟨y1, y2, y3, y4, y5, y6, y7⟩, y8⟩ := l_rem t (tI (tI x 20 0 (x.1 20 0 + 1)) 20 2 (nI (n0 + t))) (hset h (x.2 2) (n0 + t) .null) (nI (n0 + t) + -1) (by
      rw [Int32.add_assoc]
      have : (-1 : Int32) + 1 = 0 := by decide
      rw [this, Int32.add_zero]) (by omega) rfl hh (fun _ => ⟨a1, a2, by
        show ((hset h (x.2 2) (n0 + t) .null).2.2 (x.2 2)).1 = 24
        rw [hs_s]; exact a3, by
        show n0 + t ≤ ((hset h (x.2 2) (n0 + t) .null).2.2 (x.2 2)).2.1
        rw [hs_s]
        show n0 + t ≤ (h.2.2 (x.2 2)).2.1
        omega, by
        show ((hset h (x.2 2) (n0 + t) .null).2.2 (x.2 2)).2.1 ≤ 1000
        rw [hs_s]; exact a5, fun k hk => by
        show ((hset h (x.2 2) (n0 + t) .null).2.2 (x.2 2)).2.2 k = _
        rw [hs_s]
        show updV _ (n0 + t) _ k = _
        rw [uv_o _ _ (by omega)]
        exact a6 k (by omega)⟩)
    have hx2 : (tI (tI x 20 0 (x.1 20 0 + 1)) 20 2 (nI (n0 + t))).2 = x.2 := rfl
    have hx1 : ∀ a k, a ≠ 20 → (tI (tI x 20 0 (x.1 20 0 + 1)) 20 2 (nI (n0 + t))).1 a k = x.1 a k := fun a k ha => by
      show upN (upN x.1 20 _) 20 _ a k = _
      rw [upN_n _ _ ha, upN_n _ _ ha]
    rw [hx2] at y3 y6 y7
    refine ⟨x', h', ⟨fun a k ha => (y1 a k ha).trans (hx1 a k ha), y2, y3, y4, y5, fun a ha => (y6 a ha).trans (hs_o _ _ (fun z => by have := ha z; omega)), fun hne => ?_⟩, fun d r0 Q => ?_⟩
    · obtain ⟨z1, z2, z3⟩ := y7 hne
      rw [hs_s] at z1 z2 z3
      refine ⟨z1, z2, fun k hk => (z3 k hk).trans ?_⟩
      show updV _ (n0 + t) _ k = _
      rw [uv_o _ _ (by omega)]
    · rw [← y8 d r0 Q, e_143_77]
      have haa := aasN (putR r0 (putX (tI (tI x 20 0 (x.1 20 0 + 1)) 20 2 (nI (n0 + t))) h))
      have hx0 : (tI x 20 0 (x.1 20 0 + 1)).1 20 2 - 1 = nI (n0 + t) := by
        rw [tI_k _ _ _ (by decide), hx]
        have := ni_sub (a := n0 + (t + 1)) (b := 1) (by omega)
        rw [show n0 + (t + 1) - 1 = n0 + t by omega] at this
        exact this
      simp (disch := first | exact c1_i _ | exact c1_r _ | exact c1_n | exact c1_m | omega | assumption | (apply ac_l; omega) | (apply ac_r; omega) | decide | exact Or.inl rfl) only [e_143_79, e_143_81, e_143_84, e_143_84n, e_143_85, e_143_88, e_143_90, e_143_93, e_143_94, e_143_97, e_147_0, e_147_1, e_147_1n, e_147_2, e_147_5, e_147_8, e_147_9, e_147_9n, e_147_10, e_147_13, e_147_13n, e_147_14, e_147_14n, e_147_15, e_147_16, e_147_17, e_147_17n, e_147_18, e_147_18n, e_147_19, e_147_19n, e_147_20, e_147_21, e_147_24, e_147_24n, e_147_25, e_147_25n, e_148_0, e_148_0n, e_148_1, e_148_2, e_148_5, e_148_6, e_148_7, e_148_10, e_148_10n, e_148_11, e_148_14, e_148_15, e_148_16, e_148_17, e_148_18, e_148_19, e_148_22, e_148_22n, e_148_23, e_148_24, e_148_25, e_148_26, e_148_26n, e_148_27, e_148_28, e_148_29, e_148_30, e_148_34, e_148_34n, e_148_35, e_148_35n, e_148_36, e_148_37, e_148_38, e_148_41, e_148_42, e_148_43, e_50_0, e_50_1, e_50_2, e_50_3, e_50_6, e_51_0, e_51_1, e_51_4, e_51_5, e_51_6, e_51_9, e_51_9n, e_51_10, e_51_11, e_51_16, e_51_17, Option.toList_some, Option.toList_none, List.cons_append, List.nil_append, catS_cons, catS_nil, cat_int, cat_long, cat_ref, cat_null, c1_i, c1_r, c1_n, c1_m, true_and, and_true, and_self, putR_1, putR_u, eq_self, Nat.reduceLT, Nat.reduceLeDiff, Nat.reduceAdd, Nat.reduceEqDiff, vk_i, vk_l, vk_r, vk_n, vk_0, vk_1, if_true, if_false, not_true_eq_false, not_false_eq_true, false_and, and_false, ne_eq, true_or, or_true, ite_not, reduceCtorEq, putX_1, putX_u, putX_hi, hset_Xhi, px_5, xf_5_0, xf_5_1, xI_5_1, xf_5_2, xR_0, xf_5_3, xI_5_3, xf_5_4, xI_5_4, xf_5_5, xf_5_6, xI_5_6, xf_5_7, xf_5_8, xf_5_9, xf_5_10, xf_5_11, xf_5_12, xf_5_13, xf_5_14, xf_5_15, xI_5_15, px_6, xA_6, px_18, xA_18, px_19, xf_19_0, xI_19_0, xf_19_1, xR_1, xf_19_2, xI_19_2, px_20, xf_20_0, xI_20_0, xf_20_1, xR_2, xf_20_2, xI_20_2, px_21, xf_21_0, xI_21_0, xf_21_1, xR_3, xf_21_2, xI_21_2, px_22, xf_22_0, xI_22_0, xf_22_1, xR_4, xf_22_2, xI_22_2, px_23, xf_23_0, xI_23_0, xf_23_1, xR_5, xf_23_2, xI_23_2, px_24, xf_24_0, xI_24_0, xf_24_1, xR_6, xf_24_2, xI_24_2, px_25, xf_25_0, xI_25_0, xf_25_1, xI_25_1, xf_25_2, xf_25_3, xI_25_3, xf_25_4, xf_25_5, xf_25_6, px_26, xA_26, px_27, px_28, xA_28, px_29, xA_29, px_30, xA_30, px_31, xA_31, px_32, xA_32, px_33, xA_33, px_34, xA_34, px_35, xA_35, px_36, xA_36, px_37, xA_37, px_38, xA_38, px_39, xA_39, px_40, xA_40, px_41, xA_41, px_42, xA_42, px_43, xA_43, px_44, xA_44, px_45, xA_45, px_46, xA_46, px_47, xA_47, px_48, xA_48, px_49, xA_49, px_50, xA_50, px_51, xA_51, px_52, xA_52, px_53, xA_53, px_54, xA_54, px_55, xA_55, px_56, xA_56, px_57, xA_57, px_58, xA_58, px_59, xA_59, px_60, xA_60, px_61, xA_61, px_62, xA_62, px_63, xA_63, px_64, xA_64, px_65, xA_65, px_66, xA_66, px_67, xA_67, px_68, xA_68, px_69, xA_69, px_70, xf_70_0, xI_70_0, xf_70_1, xI_70_1, xf_70_2, xI_70_2, xf_70_3, xf_70_4, px_71, xA_71, px_72, xA_72, ni_ixL, ni_clL, ni_add, ni_mul, ni_lt, ni_le, ni_eq, ni_clamp, ni_ix, ni_lt0, ni_0le, ni_ltL, ni_Llt, ni_leL, ni_Lle, ni_eqL, ni_addL, ni_Ladd, ni_mulL, ni_Lmul, ni_subL, ni_sub, ni_Lsub, le_t, le_f, lt_t, lt_f, eq_f, il_lt, il_l0, il_g0, il_l1, il_g1, il_l2, il_g2, il_l3, il_g3, il_l4, il_g4, il_l5, il_g5, il_l7, il_g7, il_l8, il_g8, il_l9, il_g9, il_l10, il_g10, il_l15, il_g15, il_l20, il_g20, il_l23, il_g23, il_l24, il_g24, il_l60, il_g60, il_l100, il_g100, il_l999, il_g999, il_l1000, il_g1000, putR_lo, hset_lo, putR_lt hh, rd_hi, wr_hi, hs_1, hs_s, hs_o, uv_s, uv_o, pv_0, pv_n, i1_0, bs_0, bs_1, im_lt, im_ge, im_eq, ni_em, hx, hx0, a3, a7, haa]
/-- before the values are read -/
theorem cb_0 (hw : World K tb g r x h) (hj : j < 120) (hic : (g.2.2.2.2.2 23) j = b) (hb : b ≠ 0) (hr : RD h b L F) (h1 : (h.2.2 b).2.2 1 = .int (nI (g.1 0 1))) : CB K tb g x h b L F (g.1 0 1) j g r x h := by
  have hj' : j < 120 ∧ (g.2.2.2.2.2 23) j ≠ 0 := ⟨hj, by rw [hic]; exact hb⟩
  have q1 := hw.1.2.1.1 ((g.2.2.2.2.2 23) j) (15, j) (Or.inr (Or.inr (Or.inr (Or.inr (Or.inr (Or.inr (Or.inl ⟨j, hj'.1, hj'.2, Or.inl ⟨rfl, rfl⟩⟩)))))))
  have q2 := hw.1.2.1.1 ((g.2.2.2.2.2 23) j + 2) (17, j) (Or.inr (Or.inr (Or.inr (Or.inr (Or.inr (Or.inr (Or.inl ⟨j, hj'.1, hj'.2, Or.inr (Or.inr ⟨rfl, rfl⟩)⟩)))))))
  rw [hic] at q1 q2
  exact ⟨hw, hr, h1, ⟨Nat.le_refl _, fun k k1 k2 => by omega⟩, gsm_r, ⟨Nat.le_refl _, q2.2.1⟩, fun a _ _ => ⟨rfl, rfl, rfl, fun _ => rfl⟩, ⟨rfl, rfl, fun _ _ _ _ => rfl⟩, fun _ _ _ => rfl, fun _ _ => rfl, ⟨hj, hic, hb, q1.2.2, q2.2.2⟩⟩
end
