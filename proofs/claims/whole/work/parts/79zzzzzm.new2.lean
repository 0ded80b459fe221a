section
variable {K : Nat → pcell} {tb : Nat} {g g' g2 : gS} {r r' r0 r1 r2 rb : rS} {x x' : xS} {h h' : pheap} {a b n k m i c p q R t N d : Nat} {P : pB} {Q : Option Value → pheap → Prop}
def rdH1 (h : pheap) : pheap := hnew (hnew h 2 9 (fun k => dflF (fkd (1000 * 2 + k)))) 1 13 (fun k => dflF (fkd (1000 * 1 + k)))
def rdH2 (h H : pheap) (N : Nat) : pheap := hset (hset (hset (hnew (hset H h.1 0 (.ref (h.1 + 1))) 21 8 (fun _ => dflA 21)) h.1 8 (.ref (h.1 + 12))) h.1 3 (.ref 6)) h.1 4 (.int (nI N))
def rdH (h : pheap) (N : Nat) : pheap := rdH2 h (bkL (h.1 + 1) bkT 0 (rdH1 h)) N
theorem rh_1 : (rdH1 h).1 = h.1 + 2 := rfl
theorem rh_b : (rdH1 h).2.2 (h.1 + 1) = (1, 13, fun k => dflF (fkd (1000 * 1 + k))) := hn_s (h := hnew h 2 9 (fun k => dflF (fkd (1000 * 2 + k)))) 1 13 _
theorem rh_R : (rdH1 h).2.2 h.1 = (2, 9, fun k => dflF (fkd (1000 * 2 + k))) := (hn_o (h := hnew h 2 9 (fun k => dflF (fkd (1000 * 2 + k)))) 1 13 _ (by rw [hn_1]; omega)).trans (hn_s _ _ _)
theorem x_rd (hh : 146 ≤ h.1) (hN : N ≤ 1500) : Go (d + 2) 11 0 [.ref h.1, .ref 6, .int (nI N)] [] (putR r0 (putX x (hnew h 2 9 (fun k => dflF (fkd (1000 * 2 + k)))))) Q = Q none (putR r0 (putX x (rdH h N))) := by
  have p1 := fun Q => x_bk (d := d) (r0 := r0) (x := x) (b := h.1 + 1) (Q := Q) (h := rdH1 h) (by rw [rh_1]; omega) (by omega) (by rw [rh_1]; omega) (by rw [rh_b])
  obtain ⟨y1, y2, -⟩ := bl_ok (b := h.1 + 1) bkT 0 (rdH1 h) (by rw [rh_1]; omega)
  unfold rdH
  generalize bkL (h.1 + 1) bkT 0 (rdH1 h) = H at p1 y1 y2 ⊢
  have f1 : H.1 = h.1 + 12 := y1
  have f2 := y2 h.1 (by omega) (by rw [rh_1]; omega)
  rw [rh_R] at f2
  have g1 : ¬ nI 1500 < nI N := by
    rw [ni_lt (by omega) (by omega)]
    omega
  have g2 : ¬ (1500 : Int32) < nI N := g1
  unfold rdH1 at p1
  have st : Go (d + 2) 11 0 [.ref h.1, .ref 6, .int (nI N)] [] (putR r0 (putX x (hnew h 2 9 (fun k => dflF (fkd (1000 * 2 + k)))))) Q = Go (d + 2) 11 12 [.ref h.1, .ref 6, .int (nI N)] [.ref (h.1 + 1), .ref h.1] (putR r0 (putX x H)) Q := by
    simp (disch := first | exact c1_i _ | exact c1_r _ | exact c1_n | exact c1_m | omega | assumption | (simp only [hn_1, hs_1, hC_1]; omega) | (apply ac_l; omega) | (apply ac_r; omega) | decide | exact Or.inl rfl) only [e_11_0, e_11_0n, e_11_1, e_11_4, e_11_4n, e_11_5, e_11_8, e_11_9, Option.toList_some, Option.toList_none, List.cons_append, List.nil_append, catS_cons, catS_nil, cat_int, cat_long, cat_ref, cat_null, c1_i, c1_r, c1_n, c1_m, true_and, and_true, and_self, putR_1, putR_u, eq_self, Nat.reduceLT, Nat.reduceLeDiff, Nat.reduceAdd, Nat.reduceEqDiff, vk_i, vk_l, vk_r, vk_n, vk_0, vk_1, if_true, if_false, not_true_eq_false, not_false_eq_true, false_and, and_false, ne_eq, true_or, or_true, ite_not, reduceCtorEq, putX_1, putX_u, putX_hi, hset_Xhi, px_5, xf_5_0, xf_5_1, xI_5_1, xf_5_2, xR_0, xf_5_3, xI_5_3, xf_5_4, xI_5_4, xf_5_5, xf_5_6, xI_5_6, xf_5_7, xf_5_8, xf_5_9, xf_5_10, xf_5_11, xf_5_12, xf_5_13, xf_5_14, xf_5_15, xI_5_15, px_6, xA_6, px_18, xA_18, px_19, xf_19_0, xI_19_0, xf_19_1, xR_1, xf_19_2, xI_19_2, px_20, xf_20_0, xI_20_0, xf_20_1, xR_2, xf_20_2, xI_20_2, px_21, xf_21_0, xI_21_0, xf_21_1, xR_3, xf_21_2, xI_21_2, px_22, xf_22_0, xI_22_0, xf_22_1, xR_4, xf_22_2, xI_22_2, px_23, xf_23_0, xI_23_0, xf_23_1, xR_5, xf_23_2, xI_23_2, px_24, xf_24_0, xI_24_0, xf_24_1, xR_6, xf_24_2, xI_24_2, px_25, xf_25_0, xI_25_0, xf_25_1, xI_25_1, xf_25_2, xf_25_3, xI_25_3, xf_25_4, xf_25_5, xf_25_6, px_26, xA_26, px_27, px_28, xA_28, px_29, xA_29, px_30, xA_30, px_31, xA_31, px_32, xA_32, px_33, xA_33, px_34, xA_34, px_35, xA_35, px_36, xA_36, px_37, xA_37, px_38, xA_38, px_39, xA_39, px_40, xA_40, px_41, xA_41, px_42, xA_42, px_43, xA_43, px_44, xA_44, px_45, xA_45, px_46, xA_46, px_47, xA_47, px_48, xA_48, px_49, xA_49, px_50, xA_50, px_51, xA_51, px_52, xA_52, px_53, xA_53, px_54, xA_54, px_55, xA_55, px_56, xA_56, px_57, xA_57, px_58, xA_58, px_59, xA_59, px_60, xA_60, px_61, xA_61, px_62, xA_62, px_63, xA_63, px_64, xA_64, px_65, xA_65, px_66, xA_66, px_67, xA_67, px_68, xA_68, px_69, xA_69, px_70, xf_70_0, xI_70_0, xf_70_1, xI_70_1, xf_70_2, xI_70_2, xf_70_3, xf_70_4, px_71, xA_71, px_72, xA_72, ni_ixL, ni_clL, ni_add, ni_mul, ni_lt, ni_le, ni_eq, ni_clamp, ni_ix, ni_lt0, ni_0le, ni_ltL, ni_Llt, ni_leL, ni_Lle, ni_eqL, ni_addL, ni_Ladd, ni_mulL, ni_Lmul, ni_subL, ni_sub, ni_Lsub, le_t, le_f, lt_t, lt_f, eq_f, il_lt, il_l0, il_g0, il_l1, il_g1, il_l2, il_g2, il_l3, il_g3, il_l4, il_g4, il_l5, il_g5, il_l7, il_g7, il_l8, il_g8, il_l9, il_g9, il_l10, il_g10, il_l15, il_g15, il_l20, il_g20, il_l23, il_g23, il_l24, il_g24, il_l60, il_g60, il_l100, il_g100, il_l999, il_g999, il_l1000, il_g1000, putR_lo, hset_lo, putR_lt hh, rd_hi, wr_hi, hs_1, hs_s, hs_o, uv_s, uv_o, pv_0, pv_n, i1_0, bs_0, bs_1, im_lt, im_ge, im_eq, ni_em, nw_hi, hn_1, hn_s, hn_o, ni_Ll0, p1]
  rw [st]
  unfold rdH2
  have hh' : 146 ≤ H.1 := by omega
  have hh := hh'
  simp (disch := first | exact c1_i _ | exact c1_r _ | exact c1_n | exact c1_m | omega | assumption | (simp only [hn_1, hs_1, hC_1]; omega) | (apply ac_l; omega) | (apply ac_r; omega) | decide | exact Or.inl rfl) only [e_11_12, e_11_15, e_11_15n, e_11_16, e_11_18, e_11_20, e_11_23, e_11_23n, e_11_24, e_11_24n, e_11_25, e_11_28, e_11_28n, e_11_29, e_11_30, e_11_30n, e_11_31, e_11_32, e_11_35, e_11_38, Option.toList_some, Option.toList_none, List.cons_append, List.nil_append, catS_cons, catS_nil, cat_int, cat_long, cat_ref, cat_null, c1_i, c1_r, c1_n, c1_m, true_and, and_true, and_self, putR_1, putR_u, eq_self, Nat.reduceLT, Nat.reduceLeDiff, Nat.reduceAdd, Nat.reduceEqDiff, vk_i, vk_l, vk_r, vk_n, vk_0, vk_1, if_true, if_false, not_true_eq_false, not_false_eq_true, false_and, and_false, ne_eq, true_or, or_true, ite_not, reduceCtorEq, putX_1, putX_u, putX_hi, hset_Xhi, px_5, xf_5_0, xf_5_1, xI_5_1, xf_5_2, xR_0, xf_5_3, xI_5_3, xf_5_4, xI_5_4, xf_5_5, xf_5_6, xI_5_6, xf_5_7, xf_5_8, xf_5_9, xf_5_10, xf_5_11, xf_5_12, xf_5_13, xf_5_14, xf_5_15, xI_5_15, px_6, xA_6, px_18, xA_18, px_19, xf_19_0, xI_19_0, xf_19_1, xR_1, xf_19_2, xI_19_2, px_20, xf_20_0, xI_20_0, xf_20_1, xR_2, xf_20_2, xI_20_2, px_21, xf_21_0, xI_21_0, xf_21_1, xR_3, xf_21_2, xI_21_2, px_22, xf_22_0, xI_22_0, xf_22_1, xR_4, xf_22_2, xI_22_2, px_23, xf_23_0, xI_23_0, xf_23_1, xR_5, xf_23_2, xI_23_2, px_24, xf_24_0, xI_24_0, xf_24_1, xR_6, xf_24_2, xI_24_2, px_25, xf_25_0, xI_25_0, xf_25_1, xI_25_1, xf_25_2, xf_25_3, xI_25_3, xf_25_4, xf_25_5, xf_25_6, px_26, xA_26, px_27, px_28, xA_28, px_29, xA_29, px_30, xA_30, px_31, xA_31, px_32, xA_32, px_33, xA_33, px_34, xA_34, px_35, xA_35, px_36, xA_36, px_37, xA_37, px_38, xA_38, px_39, xA_39, px_40, xA_40, px_41, xA_41, px_42, xA_42, px_43, xA_43, px_44, xA_44, px_45, xA_45, px_46, xA_46, px_47, xA_47, px_48, xA_48, px_49, xA_49, px_50, xA_50, px_51, xA_51, px_52, xA_52, px_53, xA_53, px_54, xA_54, px_55, xA_55, px_56, xA_56, px_57, xA_57, px_58, xA_58, px_59, xA_59, px_60, xA_60, px_61, xA_61, px_62, xA_62, px_63, xA_63, px_64, xA_64, px_65, xA_65, px_66, xA_66, px_67, xA_67, px_68, xA_68, px_69, xA_69, px_70, xf_70_0, xI_70_0, xf_70_1, xI_70_1, xf_70_2, xI_70_2, xf_70_3, xf_70_4, px_71, xA_71, px_72, xA_72, ni_ixL, ni_clL, ni_add, ni_mul, ni_lt, ni_le, ni_eq, ni_clamp, ni_ix, ni_lt0, ni_0le, ni_ltL, ni_Llt, ni_leL, ni_Lle, ni_eqL, ni_addL, ni_Ladd, ni_mulL, ni_Lmul, ni_subL, ni_sub, ni_Lsub, le_t, le_f, lt_t, lt_f, eq_f, il_lt, il_l0, il_g0, il_l1, il_g1, il_l2, il_g2, il_l3, il_g3, il_l4, il_g4, il_l5, il_g5, il_l7, il_g7, il_l8, il_g8, il_l9, il_g9, il_l10, il_g10, il_l15, il_g15, il_l20, il_g20, il_l23, il_g23, il_l24, il_g24, il_l60, il_g60, il_l100, il_g100, il_l999, il_g999, il_l1000, il_g1000, putR_lo, hset_lo, putR_lt hh, rd_hi, wr_hi, hs_1, hs_s, hs_o, uv_s, uv_o, pv_0, pv_n, i1_0, bs_0, bs_1, im_lt, im_ge, im_eq, ni_em, nw_hi, hn_1, hn_s, hn_o, ni_Ll0, f1, f2, g1, g2]
def P0 : pB := (fun i => if i = 0 then 1 else 0, fun _ _ => 0)
theorem rd_ok (hs : Sim K g r x h) : Sim K g r x (rdH h N) ∧ (rdH h N).1 = h.1 + 13 ∧ (rdH h N).2.1 = h.2.1 + 431 ∧ (rdH h N).2.2 h.1 = (2, 9, rdC (fun k => dflF (fkd (1000 * 2 + k))) h.1 N 0 0 0 0 0) ∧ ∀ r' : rS, BKc (rdH h N) h.1 r' P0 := by
  have hh := sim_146 hs
  have t0 := sim_top hs (Nat.le_refl h.1)
  have t1 := sim_top hs (b := h.1 + 1) (by omega)
  have s1 : Sim K g r x (rdH1 h) := sim_new (sim_new hs _ _ _) _ _ _
  have s2 := bl_sim bkT 0 (rdH1 h) s1 (b := h.1 + 1) (by omega) t1
  have s3 : Sim K g r x (rdH h N) := sim_junk (sim_junk (sim_junk (sim_new (sim_junk s2 t0 hh _ _) _ _ _) t0 hh _ _) t0 hh _ _) t0 hh _ _
  refine ⟨s3, rfl, rfl, ?_⟩
  obtain ⟨y1, y2, y3, y4, y5, y6, y7⟩ := bl_ok (b := h.1 + 1) bkT 0 (rdH1 h) (by rw [rh_1]; omega)
  unfold rdH
  generalize bkL (h.1 + 1) bkT 0 (rdH1 h) = H at y1 y2 y3 y4 y5 y6 y7 ⊢
  have f1 : H.1 = h.1 + 12 := y1
  have f2 := y2 h.1 (by omega) (by rw [rh_1]; omega)
  rw [rh_R] at f2
  rw [rh_b] at y3 y5
  rw [rh_1] at y6 y7
  have e12 : h.1 + 12 = (hset H h.1 0 (.ref (h.1 + 1))).1 := f1.symm
  have qo : ∀ a, a ≠ h.1 → a ≠ h.1 + 12 → (rdH2 h H N).2.2 a = H.2.2 a := fun a a1 a2 => by
    unfold rdH2
    rw [hs_o _ _ a1, hs_o _ _ a1, hs_o _ _ a1, hn_o _ _ _ (by rw [← e12]; exact a2), hs_o _ _ a1]
  have q12 : (rdH2 h H N).2.2 (h.1 + 12) = (21, 8, fun _ => dflA 21) := by
    unfold rdH2
    rw [hs_o _ _ (by omega), hs_o _ _ (by omega), hs_o _ _ (by omega)]
    exact (congrArg (hnew (hset H h.1 0 (.ref (h.1 + 1))) 21 8 (fun _ => dflA 21)).2.2 e12).trans (hn_s _ _ _)
  refine ⟨?_, fun r' => ?_⟩
  · unfold rdH2
    rw [hs_s, hs_s, hs_s, hn_o _ _ _ (by rw [← e12]; omega), hs_s, f2]
    refine Prod.ext rfl (Prod.ext rfl (funext fun k => ?_))
    unfold rdC
    dsimp only
    by_cases e7 : k = 7
    · subst e7; rfl
    rw [uv_o _ _ e7]
    by_cases e6 : k = 6
    · subst e6; rfl
    rw [uv_o _ _ e6]
    by_cases e5 : k = 5
    · subst e5; rfl
    rw [uv_o _ _ e5]
    by_cases e2 : k = 2
    · subst e2; rfl
    rw [uv_o _ _ e2]
    by_cases e1 : k = 1
    · subst e1; rfl
    rw [uv_o _ _ e1]
  · have cl : ∀ j t n, j < 10 → bkT[j]? = some (t, n) → (rdH2 h H N).2.2 (h.1 + (2 + j)) = (t, n, fun _ => dflA t) := fun j t n l10 hj => by
      rw [qo _ (by omega) (by omega), show h.1 + (2 + j) = h.1 + 2 + j by omega]
      exact y7 j t n hj
    have d1 := qo (h.1 + 1) (by omega) (by omega)
    have d2 := cl 0 21 8 (by omega) rfl
    have d3 := cl 1 21 6 (by omega) rfl
    have d4 := cl 2 21 8 (by omega) rfl
    have d5 := cl 3 20 9 (by omega) rfl
    have d6 := cl 4 20 6 (by omega) rfl
    have d7 := cl 5 20 36 (by omega) rfl
    have d8 := cl 6 20 8 (by omega) rfl
    have d9 := cl 7 20 64 (by omega) rfl
    have d10 := cl 8 20 64 (by omega) rfl
    have d11 := cl 9 20 192 (by omega) rfl
    have z : ∀ k, ¬ k < 0 := fun k => Nat.not_lt_zero k
    unfold BKc
    rw [d1, d2, d3, d4, d5, d6, d7, d8, d9, d10, d11, q12]
    refine ⟨⟨y3, (y5 0 (by omega)).trans rfl, (y5 1 (by omega)).trans rfl, (y5 2 (by omega)).trans rfl, fun j hj => y6 j hj⟩, ⟨rfl, rfl, fun k hk => absurd hk (z k)⟩, ⟨rfl, rfl, fun k hk => absurd hk (z k)⟩, ⟨rfl, rfl, fun k hk => absurd hk (z k)⟩, ⟨rfl, rfl, fun k hk => rfl⟩, ⟨rfl, rfl, fun k hk => rfl⟩, ⟨rfl, rfl, fun k hk => absurd hk (z k)⟩, ⟨rfl, rfl, fun k hk => rfl⟩, ⟨rfl, rfl, fun k hk => absurd hk (z k)⟩, ⟨rfl, rfl, fun k hk => rfl⟩, ⟨rfl, rfl, fun k hk => absurd hk (z k)⟩, ⟨rfl, rfl⟩⟩
end
