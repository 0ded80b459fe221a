/-! the class reads a text, or a node that it met -/
section
variable {K : Nat → pcell} {tb : Nat} {g g' g0 g1 : gS} {r r' r0 : rS} {x x' x0 x1 : xS} {h h' h0 h1 : pheap} {d : Nat} {Q : Option Value → pheap → Prop} {a n k m rc b L n0 p j t c c2 c3 : Nat} {F : Nat → Int32} {l : List Nat} {s : Int32}
/-- what a value that has been read has: a cell more or two -/
def VRd (g' g : gS) (h' h : pheap) (b : Nat) (s : Int32) (v : Int64) : Prop := g'.2.2.2.1 h.1 = (1, 0) ∧ (g'.2.1 h.1).1 = s ∧ (s ≠ 4 → (g'.2.1 h.1).2.1 = v ∧ (g'.2.1 h.1).2.2 = 0) ∧ h.1 < h'.1 ∧ h'.1 ≤ h.1 + 2 ∧ h'.2.1 ≤ h.2.1 + 19 ∧ (h'.2.2 b).2.2 2 = (h.2.2 b).2.2 2 ∧ g'.1 = g.1 ∧ g'.2.2.2.2 = g.2.2.2.2 ∧ ∀ a, a < h.1 → g'.2.2.2.1 a = g.2.2.2.1 a ∧ g'.2.1 a = g.2.1 a ∧ g'.2.2.1 a = g.2.2.1 a
theorem x_rvT (hc : CB K tb g0 x0 h0 b L F n0 j g r x h) (h5 : (h.2.2 b).2.2 5 = .int (nI p)) (h2 : (h.2.2 b).2.2 2 = .int 0) (hm : F p = nI m) (hm16 : m ≤ 16) (hp : p + 1 + m ≤ L) : ∃ g' h', CB K tb g0 x0 h0 b L F n0 j g' r x h' ∧ VRd g' g h' h b 4 0 ∧ (h'.2.2 b).2.2 5 = .int (nI (p + 1 + m)) ∧ (g'.2.1 h.1).2.2 = h.1 + 1 ∧ g'.2.2.1 (h.1 + 1) = (m, fun i => sb (F (p + 1 + i))) ∧ ∀ d r0 Q, Go (d + 4) 144 0 [.ref b, .int 4, .ref c2, .ref c3, mk0, mk0, mk0, mk0] [] (putR r0 (putX x h)) Q = Q (some (.ref h.1)) (putR r0 (putX x h')) := by
  have hh := sim_146 hc.1.1
  obtain ⟨h01, hb, hb1⟩ := cb_lo hc
  have t6 := hc.2.1.2.2.1
  have z0 : g.2.2.2.1 h.1 = (0, 0) := sim_top hc.1.1 (by omega)
  have z1 : g.2.2.2.1 (h.1 + 1) = (0, 0) := sim_top hc.1.1 (by omega)
  have k1 := cb_new hc 9 3 (fun k => dflF (fkd (1000 * 9 + k)))
  have k1a : (((hnew h 9 3 (fun k => dflF (fkd (1000 * 9 + k)))).2.2 b).2.2 5) = .int (nI p) := by rw [hn_o _ _ _ (by omega)]; exact h5
  have hh1 := sim_146 k1.1.1
  have e1 := fun d r0 Q => x_readN (d := d) (r0 := r0) (x := x) (n := 1) (Q := Q) hh1 k1.2.1 k1a (by omega)
  rw [nb_1, hm] at e1
  have k2 := cb_at k1 (k := 5) (Or.inr rfl) (nI (p + 1))
  have k3 := cb_new k2 22 m (fun _ => dflA 22)
  obtain ⟨H', y1, y2, y3, y4, y5, y6, y7, y8⟩ := l_rtx (c := h.1 + 1) (p := p + 1) (m := m) z1 (by omega) hp hm16 m 0 _ (by omega) k3 (by rw [hn_1, hs_1, hn_1]; omega) (by
    rw [hn_o _ _ _ (by rw [hs_1, hn_1]; omega), hs_s]
    dsimp only
    rw [uv_s]) (by
    have := hn_s (h := hset (hnew h 9 3 (fun k => dflF (fkd (1000 * 9 + k)))) b 5 (.int (nI (p + 1)))) 22 m (fun _ => dflA 22)
    rw [hs_1, hn_1] at this
    rw [this]) (by
    have := hn_s (h := hset (hnew h 9 3 (fun k => dflF (fkd (1000 * 9 + k)))) b 5 (.int (nI (p + 1)))) 22 m (fun _ => dflA 22)
    rw [hs_1, hn_1] at this
    rw [this]) (fun i hi => absurd hi (Nat.not_lt_zero i))
  have q9 : H'.2.2 h.1 = (9, 3, (fun k => dflF (fkd (1000 * 9 + k)))) := by
    rw [y6 _ (by omega) (by omega), hn_o _ _ _ (by rw [hs_1, hn_1]; omega), hs_o _ _ (by omega), hn_s]
  have q2 : (H'.2.2 b).2.2 2 = (h.2.2 b).2.2 2 := by
    rw [y5, hn_o _ _ _ (by rw [hs_1, hn_1]; omega), hs_s]
    dsimp only
    rw [uv_o _ _ (show (2 : Nat) ≠ 5 by decide), hn_o _ _ _ (by omega)]
  have q1 : H'.1 = h.1 + 2 := y2
  have qu : H'.2.1 = h.2.1 + 3 + m := y3
  have hh' := sim_146 y1.1.1
  have k4 := cb_junk (cb_junk (cb_junk y1 h01 z0 0 (.int 4)) h01 z0 1 (.long 0)) h01 z0 2 (.ref (h.1 + 1))
  have k5 := cb_prom (c := h.1 + 1) (k := 2) (w := (0, 0, 0)) (w2 := (m, fun i => sb (F (p + 1 + i)))) k4 (by omega) z1 (by simp only [hs_1]; omega) ⟨by omega, by omega⟩ (fun z => absurd z (by decide)) (fun _ => by
    rw [hs_o _ _ (by omega), hs_o _ _ (by omega), hs_o _ _ (by omega)]
    exact y7) (fun z => absurd z (by decide))
  have k6 := cb_prom (c := h.1) (k := 1) (w := (4, 0, h.1 + 1)) (w2 := (0, fun _ => 0)) k5 h01 (by rw [gP_rn (by omega)]; exact z0) (by simp only [hs_1]; omega) ⟨by omega, by omega⟩ (fun _ => ⟨by
    simp only [hs_s, q9]
    exact ⟨rfl, rfl, rfl, (pv_n (Nat.succ_ne_zero _)).symm⟩, fun _ => ⟨by show 146 ≤ h.1 + 1; omega, by simp only [hs_1]; omega, gP_ro⟩⟩) (fun z => absurd z (by decide)) (fun z => absurd z (by decide))
  refine ⟨_, _, k6, ⟨gP_ro, by rw [gP_va], fun z => absurd rfl z, by simp only [hs_1]; omega, by simp only [hs_1]; omega, by simp only [hs_u]; omega, ?_, rfl, rfl, fun a ha => ⟨by rw [gP_rn (by omega), gP_rn (by omega)], by rw [gP_vn (by omega), gP_vn (by omega)], by rw [gP_an (by omega), gP_an (by omega)]⟩⟩, ?_, by rw [gP_va], by rw [gP_an (by omega), gP_ar], fun d r0 Q => ?_⟩
  · rw [hs_o _ _ (by omega), hs_o _ _ (by omega), hs_o _ _ (by omega)]
    exact q2
  · rw [hs_o _ _ (by omega), hs_o _ _ (by omega), hs_o _ _ (by omega)]
    exact y4
  · have ne1 : b ≠ h.1 := by omega
    have hle : ¬ (16 : Int32) < nI m := fun z => by
      have := (ni_leL (k := m) (c := 16) (by omega) (by decide)).mpr hm16
      exact absurd z (Int32.not_lt.mpr this)
    have e1' : ∀ d r0 Q, Go (d + 1) 140 0 [.ref b, .int 1, mk0, mk0, mk0] [] (putR r0 (putX x (hnew h 9 3 (fun k => dflF (fkd (1000 * 9 + k)))))) Q = Q (some (.long (nI m).toInt64)) (putR r0 (putX x (hset (hnew h 9 3 (fun k => dflF (fkd (1000 * 9 + k)))) b 5 (.int (nI (p + 1)))))) := e1
    have er : ∀ d r0 Q, Go (d + 2) 145 0 [.ref b, mk0, mk0, mk0] [] (putR r0 (putX x (hnew h 9 3 (fun k => dflF (fkd (1000 * 9 + k)))))) Q = Q (some (.ref (h.1 + 1))) (putR r0 (putX x H')) := fun d r0 Q => by
      rw [← y8 d r0 Q]
      have t6' : (((hnew h 9 3 (fun k => dflF (fkd (1000 * 9 + k)))).2.2 b).1) = 6 := by rw [hn_o _ _ _ (by omega)]; exact t6
      simp (disch := first | exact c1_i _ | exact c1_r _ | exact c1_n | exact c1_m | omega | assumption | (simp only [hn_1, hs_1, hC_1]; omega) | (apply ac_l; omega) | (apply ac_r; omega) | decide | exact Or.inl rfl) only [e_145_0, e_145_0n, e_145_1, e_145_2, e_145_5, e_145_6, e_145_7, e_145_8, e_145_10, e_145_13, e_145_14, e_145_14n, e_145_15, e_145_16, e_145_18, e_145_18n, e_145_19, e_145_20, Option.toList_some, Option.toList_none, List.cons_append, List.nil_append, catS_cons, catS_nil, cat_int, cat_long, cat_ref, cat_null, c1_i, c1_r, c1_n, c1_m, true_and, and_true, and_self, putR_1, putR_u, eq_self, Nat.reduceLT, Nat.reduceLeDiff, Nat.reduceAdd, Nat.reduceEqDiff, vk_i, vk_l, vk_r, vk_n, vk_0, vk_1, if_true, if_false, not_true_eq_false, not_false_eq_true, false_and, and_false, ne_eq, true_or, or_true, ite_not, reduceCtorEq, putX_1, putX_u, putX_hi, hset_Xhi, px_5, xf_5_0, xf_5_1, xI_5_1, xf_5_2, xR_0, xf_5_3, xI_5_3, xf_5_4, xI_5_4, xf_5_5, xf_5_6, xI_5_6, xf_5_7, xf_5_8, xf_5_9, xf_5_10, xf_5_11, xf_5_12, xf_5_13, xf_5_14, xf_5_15, xI_5_15, px_6, xA_6, px_18, xA_18, px_19, xf_19_0, xI_19_0, xf_19_1, xR_1, xf_19_2, xI_19_2, px_20, xf_20_0, xI_20_0, xf_20_1, xR_2, xf_20_2, xI_20_2, px_21, xf_21_0, xI_21_0, xf_21_1, xR_3, xf_21_2, xI_21_2, px_22, xf_22_0, xI_22_0, xf_22_1, xR_4, xf_22_2, xI_22_2, px_23, xf_23_0, xI_23_0, xf_23_1, xR_5, xf_23_2, xI_23_2, px_24, xf_24_0, xI_24_0, xf_24_1, xR_6, xf_24_2, xI_24_2, px_25, xf_25_0, xI_25_0, xf_25_1, xI_25_1, xf_25_2, xf_25_3, xI_25_3, xf_25_4, xf_25_5, xf_25_6, px_26, xA_26, px_27, px_28, xA_28, px_29, xA_29, px_30, xA_30, px_31, xA_31, px_32, xA_32, px_33, xA_33, px_34, xA_34, px_35, xA_35, px_36, xA_36, px_37, xA_37, px_38, xA_38, px_39, xA_39, px_40, xA_40, px_41, xA_41, px_42, xA_42, px_43, xA_43, px_44, xA_44, px_45, xA_45, px_46, xA_46, px_47, xA_47, px_48, xA_48, px_49, xA_49, px_50, xA_50, px_51, xA_51, px_52, xA_52, px_53, xA_53, px_54, xA_54, px_55, xA_55, px_56, xA_56, px_57, xA_57, px_58, xA_58, px_59, xA_59, px_60, xA_60, px_61, xA_61, px_62, xA_62, px_63, xA_63, px_64, xA_64, px_65, xA_65, px_66, xA_66, px_67, xA_67, px_68, xA_68, px_69, xA_69, px_70, xf_70_0, xI_70_0, xf_70_1, xI_70_1, xf_70_2, xI_70_2, xf_70_3, xf_70_4, px_71, xA_71, px_72, xA_72, ni_ixL, ni_clL, ni_add, ni_mul, ni_lt, ni_le, ni_eq, ni_clamp, ni_ix, ni_lt0, ni_0le, ni_ltL, ni_Llt, ni_leL, ni_Lle, ni_eqL, ni_addL, ni_Ladd, ni_mulL, ni_Lmul, ni_subL, ni_sub, ni_Lsub, le_t, le_f, lt_t, lt_f, eq_f, il_lt, il_l0, il_g0, il_l1, il_g1, il_l2, il_g2, il_l3, il_g3, il_l4, il_g4, il_l5, il_g5, il_l7, il_g7, il_l8, il_g8, il_l9, il_g9, il_l10, il_g10, il_l15, il_g15, il_l20, il_g20, il_l23, il_g23, il_l24, il_g24, il_l60, il_g60, il_l100, il_g100, il_l999, il_g999, il_l1000, il_g1000, putR_lo, hset_lo, putR_lt hh, rd_hi, wr_hi, hs_1, hs_s, hs_o, uv_s, uv_o, pv_0, pv_n, i1_0, bs_0, bs_1, im_lt, im_ge, im_eq, ni_em, nw_hi, hn_1, hn_s, hn_o, ni_Ll0, t6, t6', e1', il_32, hle]
      rfl
    have q91 : (H'.2.2 h.1).1 = 9 := by rw [q9]
    simp (disch := first | exact c1_i _ | exact c1_r _ | exact c1_n | exact c1_m | omega | assumption | (simp only [hn_1, hs_1, hC_1]; omega) | (apply ac_l; omega) | (apply ac_r; omega) | decide | exact Or.inl rfl) only [e_144_0, e_144_0n, e_144_1, e_144_4, e_144_7, e_144_8, e_144_11, e_144_11n, e_144_12, e_144_13, e_144_112, e_144_115, e_144_116, e_144_117, e_144_118, e_144_118n, e_144_119, e_144_122, e_144_125, e_144_125n, e_40_0, e_40_0n, e_40_1, e_40_4, e_40_4n, e_40_5, e_40_6, e_40_9, e_40_9n, e_40_10, e_40_11, e_40_14, e_40_14n, e_40_15, e_40_15n, e_40_17, e_40_20, Option.toList_some, Option.toList_none, List.cons_append, List.nil_append, catS_cons, catS_nil, cat_int, cat_long, cat_ref, cat_null, c1_i, c1_r, c1_n, c1_m, true_and, and_true, and_self, putR_1, putR_u, eq_self, Nat.reduceLT, Nat.reduceLeDiff, Nat.reduceAdd, Nat.reduceEqDiff, vk_i, vk_l, vk_r, vk_n, vk_0, vk_1, if_true, if_false, not_true_eq_false, not_false_eq_true, false_and, and_false, ne_eq, true_or, or_true, ite_not, reduceCtorEq, putX_1, putX_u, putX_hi, hset_Xhi, px_5, xf_5_0, xf_5_1, xI_5_1, xf_5_2, xR_0, xf_5_3, xI_5_3, xf_5_4, xI_5_4, xf_5_5, xf_5_6, xI_5_6, xf_5_7, xf_5_8, xf_5_9, xf_5_10, xf_5_11, xf_5_12, xf_5_13, xf_5_14, xf_5_15, xI_5_15, px_6, xA_6, px_18, xA_18, px_19, xf_19_0, xI_19_0, xf_19_1, xR_1, xf_19_2, xI_19_2, px_20, xf_20_0, xI_20_0, xf_20_1, xR_2, xf_20_2, xI_20_2, px_21, xf_21_0, xI_21_0, xf_21_1, xR_3, xf_21_2, xI_21_2, px_22, xf_22_0, xI_22_0, xf_22_1, xR_4, xf_22_2, xI_22_2, px_23, xf_23_0, xI_23_0, xf_23_1, xR_5, xf_23_2, xI_23_2, px_24, xf_24_0, xI_24_0, xf_24_1, xR_6, xf_24_2, xI_24_2, px_25, xf_25_0, xI_25_0, xf_25_1, xI_25_1, xf_25_2, xf_25_3, xI_25_3, xf_25_4, xf_25_5, xf_25_6, px_26, xA_26, px_27, px_28, xA_28, px_29, xA_29, px_30, xA_30, px_31, xA_31, px_32, xA_32, px_33, xA_33, px_34, xA_34, px_35, xA_35, px_36, xA_36, px_37, xA_37, px_38, xA_38, px_39, xA_39, px_40, xA_40, px_41, xA_41, px_42, xA_42, px_43, xA_43, px_44, xA_44, px_45, xA_45, px_46, xA_46, px_47, xA_47, px_48, xA_48, px_49, xA_49, px_50, xA_50, px_51, xA_51, px_52, xA_52, px_53, xA_53, px_54, xA_54, px_55, xA_55, px_56, xA_56, px_57, xA_57, px_58, xA_58, px_59, xA_59, px_60, xA_60, px_61, xA_61, px_62, xA_62, px_63, xA_63, px_64, xA_64, px_65, xA_65, px_66, xA_66, px_67, xA_67, px_68, xA_68, px_69, xA_69, px_70, xf_70_0, xI_70_0, xf_70_1, xI_70_1, xf_70_2, xI_70_2, xf_70_3, xf_70_4, px_71, xA_71, px_72, xA_72, ni_ixL, ni_clL, ni_add, ni_mul, ni_lt, ni_le, ni_eq, ni_clamp, ni_ix, ni_lt0, ni_0le, ni_ltL, ni_Llt, ni_leL, ni_Lle, ni_eqL, ni_addL, ni_Ladd, ni_mulL, ni_Lmul, ni_subL, ni_sub, ni_Lsub, le_t, le_f, lt_t, lt_f, eq_f, il_lt, il_l0, il_g0, il_l1, il_g1, il_l2, il_g2, il_l3, il_g3, il_l4, il_g4, il_l5, il_g5, il_l7, il_g7, il_l8, il_g8, il_l9, il_g9, il_l10, il_g10, il_l15, il_g15, il_l20, il_g20, il_l23, il_g23, il_l24, il_g24, il_l60, il_g60, il_l100, il_g100, il_l999, il_g999, il_l1000, il_g1000, putR_lo, hset_lo, putR_lt hh, rd_hi, wr_hi, hs_1, hs_s, hs_o, uv_s, uv_o, pv_0, pv_n, i1_0, bs_0, bs_1, im_lt, im_ge, im_eq, ni_em, nw_hi, hn_1, hn_s, hn_o, ni_Ll0, putR_lt hh', t6, h2, i40, i41, i42, i43, er, q1, q91]
end
