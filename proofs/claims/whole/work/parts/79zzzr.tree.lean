/-! a tree is read -/
/-- what the row k/5 of a tree has at k%5 -/
def tvF (F : Nat → Int32) (nk : Nat → Nat) : Nat → Int32 := fun k => if k % 5 = 0 then nI (nk (k / 5)) else if k % 5 = 1 then (nb F 2 (1 + 6 * (k / 5) + 1) 0).toInt32 else F (1 + 6 * (k / 5) + (k % 5 + 1))
theorem tv_0 {F : Nat → Int32} {nk : Nat → Nat} {i : Nat} : tvF F nk (5 * i) = nI (nk i) := by
  unfold tvF
  rw [if_pos (by omega), show 5 * i / 5 = i by omega]
theorem tv_1 {F : Nat → Int32} {nk : Nat → Nat} {i : Nat} : tvF F nk (5 * i + 1) = (nb F 2 (1 + 6 * i + 1) 0).toInt32 := by
  unfold tvF
  rw [if_neg (by omega), if_pos (by omega), show (5 * i + 1) / 5 = i by omega]
theorem tv_k {F : Nat → Int32} {nk : Nat → Nat} {i k : Nat} (h2 : 2 ≤ k) (h5 : k < 5) : tvF F nk (5 * i + k) = F (1 + 6 * i + (k + 1)) := by
  unfold tvF
  rw [if_neg (by omega), if_neg (by omega), show (5 * i + k) / 5 = i by omega, show (5 * i + k) % 5 = k by omega]
section
variable {K : Nat → pcell} {tb : Nat} {g g' g0 g1 g2 : gS} {r r' r0 v v' R ra s' s : rS} {x x' x0 x1 xb : xS} {h h' h0 h1 : pheap} {d : Nat} {Q : Option Value → pheap → Prop} {a n k m rc b L n0 p q j t c c2 c3 no A ce ce0 Dn N i ar sa o sv mm va ta D : Nat} {F fs sr w T V : Nat → Int32} {l l' lF : List Nat} {z e w0 w1 w2 w3 w4 : Int32} {os fc as nd : Nat → Nat}
/-- the class, while it reads -/
def RT (K : Nat → pcell) (tb : Nat) (g : gS) (r : rS) (x : xS) (h : pheap) (b L : Nat) (F : Nat → Int32) (ta m j p : Nat) : Prop := World K tb g r x h ∧ RD h b L F ∧ (h.2.2 b).2.2 5 = .int (nI p) ∧ (146 ≤ ta ∧ ta < h.1 ∧ ta ≠ b ∧ ta ≠ b + 2 ∧ g.2.2.2.1 ta = (0, 0)) ∧ ((h.2.2 ta).1 = 20 ∧ (h.2.2 ta).2.1 = 5 * m) ∧ j < 120 ∧ (g.2.2.2.2.2 23) j = b ∧ b ≠ 0
theorem rt_rd (hr : RT K tb g r x h b L F ta m j p) (q : Nat) : RT K tb g r x (hset h b 5 (.int (nI q))) b L F ta m j q := by
  obtain ⟨a1, a2, a3, ⟨b1, b2, b3, b4, b5⟩, a5, a6, a7, a8⟩ := hr
  have w1 := w_at a1 (j := j) ⟨a6, by rw [a7]; exact a8⟩ (Or.inr (Or.inr rfl)) (k := 5) (nI q)
  rw [a7] at w1
  refine ⟨w1, rd_set a2 (by decide) (by decide), ?_, ⟨b1, b2, b3, b4, b5⟩, by rw [hs_o _ _ b3]; exact a5, a6, a7, a8⟩
  rw [hs_s]
  dsimp only
  rw [uv_s]
theorem rt_st (hr : RT K tb g r x h b L F ta m j p) (k : Nat) (w : Value) : RT K tb g r x (hset h ta k w) b L F ta m j p := by
  obtain ⟨a1, a2, a3, ⟨b1, b2, b3, b4, b5⟩, a5, a6, a7, a8⟩ := hr
  refine ⟨⟨sim_junk a1.1 b5 b1 _ _, a1.2⟩, rd_c a2 (Nat.le_refl _) (hs_o _ _ (Ne.symm b3)) (hs_o _ _ (Ne.symm b4)), by rw [hs_o _ _ (Ne.symm b3)]; exact a3, ⟨b1, b2, b3, b4, b5⟩, by rw [hs_s]; exact a5, a6, a7, a8⟩
/-- a row of the tree -/
def r5H (h : pheap) (b ta i : Nat) (V : Nat → Int32) : pheap := hset (hset (hset (hset (hset (hset (hset (hset (hset (hset h b 5 (.int (nI (1 + 6 * i + 1)))) ta (5 * i) (.int (V (5 * i)))) b 5 (.int (nI (1 + 6 * i + 1 + 2)))) ta (5 * i + 1) (.int (V (5 * i + 1)))) b 5 (.int (nI (1 + 6 * i + 1 + 2 + 1)))) ta (5 * i + 2) (.int (V (5 * i + 2)))) b 5 (.int (nI (1 + 6 * i + 1 + 2 + 1 + 1)))) ta (5 * i + 3) (.int (V (5 * i + 3)))) b 5 (.int (nI (1 + 6 * i + 1 + 2 + 1 + 1 + 1)))) ta (5 * i + 4) (.int (V (5 * i + 4)))
theorem rt_5 (hr : RT K tb g r x h b L F ta m j p) : RT K tb g r x (r5H h b ta i V) b L F ta m j (1 + 6 * i + 1 + 2 + 1 + 1 + 1) := by
  unfold r5H
  exact rt_st (rt_rd (rt_st (rt_rd (rt_st (rt_rd (rt_st (rt_rd (rt_st (rt_rd hr _) _ _) _) _ _) _) _ _) _) _ _) _) _ _
theorem r5_o (h1 : a ≠ b) (h2 : a ≠ ta) : (r5H h b ta i V).2.2 a = h.2.2 a := by
  unfold r5H
  rw [hs_o _ _ h2, hs_o _ _ h1, hs_o _ _ h2, hs_o _ _ h1, hs_o _ _ h2, hs_o _ _ h1, hs_o _ _ h2, hs_o _ _ h1, hs_o _ _ h2, hs_o _ _ h1]
theorem r5_t (h1 : ta ≠ b) (hv : ∀ k, k < 5 * i → (h.2.2 ta).2.2 k = .int (V k)) : ∀ k, k < 5 * (i + 1) → ((r5H h b ta i V).2.2 ta).2.2 k = .int (V k) := fun k hk => by
  have h1' := h1
  unfold r5H
  rw [hs_s, hs_o _ _ h1, hs_s, hs_o _ _ h1, hs_s, hs_o _ _ h1, hs_s, hs_o _ _ h1, hs_s, hs_o _ _ h1]
  dsimp only
  by_cases e4 : k = 5 * i + 4
  · subst e4; rw [uv_s]
  rw [uv_o _ _ e4]
  by_cases e3 : k = 5 * i + 3
  · subst e3; rw [uv_s]
  rw [uv_o _ _ e3]
  by_cases e2 : k = 5 * i + 2
  · subst e2; rw [uv_s]
  rw [uv_o _ _ e2]
  by_cases e1 : k = 5 * i + 1
  · subst e1; rw [uv_s]
  rw [uv_o _ _ e1]
  by_cases e0 : k = 5 * i
  · subst e0; rw [uv_s]
  rw [uv_o _ _ e0]
  exact hv k (by omega)
theorem x_rt5 (hr : RT K tb g r x h b L F ta m j (1 + 6 * i)) (hD : D < (g.1 0 3)) (hL : L = 1 + 6 * m) (hm : m ≤ 12) (hi : i < m) (hk : k < (g.2.2.2.2.1 1)) (hF : F (1 + 6 * i) = nI k) (hV : V = tvF F (fun j => nkF (fun k => (r.2.2.1 94) (9 * D + k)) ((g.2.2.2.2.2 35)) 8 (F (1 + 6 * j)).toNatClampNeg)) : ∀ d r0 Q Z, Go (d + 2) 152 27 [.ref b, .ref ((g.1 4) D), .ref (x.2 0), .int (nI m), .ref ta, .int (nI i), Z] [] (putR r0 (putX x h)) Q = Go (d + 2) 152 27 [.ref b, .ref ((g.1 4) D), .ref (x.2 0), .int (nI m), .ref ta, .int (nI (i + 1)), .int (nI (5 * i))] [] (putR r0 (putX x (r5H h b ta i V))) Q := fun d r0 Q Z => by
  have kn9 : (g.2.2.2.2.1 1) ≤ 9 := hr.1.2.1.1.2.2.2.2.2.2.2.2.2.1.2.2
  have v0 : V (5 * i) = nI (nkF (fun k => (r.2.2.1 94) (9 * D + k)) ((g.2.2.2.2.2 35)) 8 k) := by rw [hV, tv_0, hF, ni_clamp (by omega)]
  have v1 : V (5 * i + 1) = (nb F 2 (1 + 6 * i + 1) 0).toInt32 := by rw [hV, tv_1]
  have v2 : V (5 * i + 2) = F (1 + 6 * i + 1 + 2) := by rw [hV, tv_k (by omega) (by omega)]
  have v3 : V (5 * i + 3) = F (1 + 6 * i + 1 + 2 + 1) := by rw [hV, tv_k (by omega) (by omega)]
  have v4 : V (5 * i + 4) = F (1 + 6 * i + 1 + 2 + 1 + 1) := by rw [hV, tv_k (by omega) (by omega)]
  have h1 := rt_rd hr (1 + 6 * i + 1)
  have h2 := rt_st h1 (5 * i) (.int (V (5 * i)))
  have h3 := rt_rd h2 (1 + 6 * i + 1 + 2)
  have h4 := rt_st h3 (5 * i + 1) (.int (V (5 * i + 1)))
  have h5 := rt_rd h4 (1 + 6 * i + 1 + 2 + 1)
  have h6 := rt_st h5 (5 * i + 2) (.int (V (5 * i + 2)))
  have h7 := rt_rd h6 (1 + 6 * i + 1 + 2 + 1 + 1)
  have h8 := rt_st h7 (5 * i + 3) (.int (V (5 * i + 3)))
  have hh : 146 ≤ h.1 := sim_146 hr.1.1
  have e1 := fun Q => x_readN (d := d) (r0 := r0) (x := x) (n := 1) (Q := Q) (sim_146 hr.1.1) hr.2.1 hr.2.2.1 (by omega)
  have e2 := fun Q => x_readN (d := d) (r0 := r0) (x := x) (n := 2) (Q := Q) (sim_146 h2.1.1) h2.2.1 h2.2.2.1 (by omega)
  have e3 := fun Q => x_readN (d := d) (r0 := r0) (x := x) (n := 1) (Q := Q) (sim_146 h4.1.1) h4.2.1 h4.2.2.1 (by omega)
  have e4 := fun Q => x_readN (d := d) (r0 := r0) (x := x) (n := 1) (Q := Q) (sim_146 h6.1.1) h6.2.1 h6.2.2.1 (by omega)
  have e5 := fun Q => x_readN (d := d) (r0 := r0) (x := x) (n := 1) (Q := Q) (sim_146 h8.1.1) h8.2.1 h8.2.2.1 (by omega)
  have e0 := fun Q => x_nk (d := d) (r0 := r0) (Q := Q) h1.1 hD hk
  rw [nb_1] at e1 e3 e4 e5
  rw [hF] at e1
  have n1 : nI 1 = 1 := rfl
  have n2 : nI 2 = 2 := rfl
  rw [n1] at e1 e3 e4 e5
  rw [n2] at e2
  rw [← v0] at e0
  obtain ⟨-, -, k30, -⟩ := s_dsk hr.1.1 hD
  have t6 := hr.2.1.2.2.1
  have hb1 := hr.2.1.1
  have hb2 := hr.2.1.2.1
  obtain ⟨-, -, -, ⟨a1, a2, a3, a4, a5⟩, ⟨a6, a7⟩, -⟩ := hr
  obtain ⟨k1, k2, k3, -⟩ := s_dsk h1.1.1 hD
  obtain ⟨k1', k2', k3', -⟩ := s_dsk h2.1.1 hD
  have db : (g.1 4) D ≠ b := fun y => by
    rw [y, hs_s] at k3
    dsimp only at k3
    rw [t6] at k3
    exact absurd k3 (by decide)
  have m5 : nI i * 5 = nI (5 * i) := by
    have := ni_mul (a := i) (b := 5)
    rw [Nat.mul_comm i 5] at this
    exact this
  have h10 : (hset h b 5 (.int (nI (1 + 6 * i + 1)))).1 = h.1 := rfl
  rw [h10] at k2
  rw [e_152_27]
  unfold r5H
  simp (disch := first | exact c1_i _ | exact c1_r _ | exact c1_n | exact c1_m | omega | assumption | (apply ac_l; omega) | (apply ac_r; omega) | decide | exact Or.inl rfl) only [e_152_29, e_152_30, e_152_33, e_152_35, e_152_36, e_152_37, e_152_39, e_152_39n, e_152_41, e_152_43, e_152_43n, e_152_44, e_152_44n, e_152_45, e_152_46, e_152_49, e_152_50, e_152_50n, e_152_51, e_152_54, e_152_55, e_152_55n, e_152_57, e_152_59, e_152_60, e_152_61, e_152_61n, e_152_62, e_152_63, e_152_66, e_152_67, e_152_68, e_152_68n, e_152_70, e_152_72, e_152_73, e_152_74, e_152_74n, e_152_75, e_152_76, e_152_79, e_152_80, e_152_81, e_152_81n, e_152_83, e_152_85, e_152_86, e_152_87, e_152_87n, e_152_88, e_152_89, e_152_92, e_152_93, e_152_94, e_152_94n, e_152_96, e_152_98, e_152_99, e_152_100, e_152_100n, e_152_101, e_152_102, e_152_105, e_152_106, e_152_107, e_152_110, Option.toList_some, Option.toList_none, List.cons_append, List.nil_append, catS_cons, catS_nil, cat_int, cat_long, cat_ref, cat_null, c1_i, c1_r, c1_n, c1_m, true_and, and_true, and_self, putR_1, putR_u, eq_self, Nat.reduceLT, Nat.reduceLeDiff, Nat.reduceAdd, Nat.reduceEqDiff, vk_i, vk_l, vk_r, vk_n, vk_0, vk_1, if_true, if_false, not_true_eq_false, not_false_eq_true, false_and, and_false, ne_eq, true_or, or_true, ite_not, reduceCtorEq, putX_1, putX_u, putX_hi, hset_Xhi, px_5, xf_5_0, xf_5_1, xI_5_1, xf_5_2, xR_0, xf_5_3, xI_5_3, xf_5_4, xI_5_4, xf_5_5, xf_5_6, xI_5_6, xf_5_7, xf_5_8, xf_5_9, xf_5_10, xf_5_11, xf_5_12, xf_5_13, xf_5_14, xf_5_15, xI_5_15, px_6, xA_6, px_18, xA_18, px_19, xf_19_0, xI_19_0, xf_19_1, xR_1, xf_19_2, xI_19_2, px_20, xf_20_0, xI_20_0, xf_20_1, xR_2, xf_20_2, xI_20_2, px_21, xf_21_0, xI_21_0, xf_21_1, xR_3, xf_21_2, xI_21_2, px_22, xf_22_0, xI_22_0, xf_22_1, xR_4, xf_22_2, xI_22_2, px_23, xf_23_0, xI_23_0, xf_23_1, xR_5, xf_23_2, xI_23_2, px_24, xf_24_0, xI_24_0, xf_24_1, xR_6, xf_24_2, xI_24_2, px_25, xf_25_0, xI_25_0, xf_25_1, xI_25_1, xf_25_2, xf_25_3, xI_25_3, xf_25_4, xf_25_5, xf_25_6, px_26, xA_26, px_27, px_28, xA_28, px_29, xA_29, px_30, xA_30, px_31, xA_31, px_32, xA_32, px_33, xA_33, px_34, xA_34, px_35, xA_35, px_36, xA_36, px_37, xA_37, px_38, xA_38, px_39, xA_39, px_40, xA_40, px_41, xA_41, px_42, xA_42, px_43, xA_43, px_44, xA_44, px_45, xA_45, px_46, xA_46, px_47, xA_47, px_48, xA_48, px_49, xA_49, px_50, xA_50, px_51, xA_51, px_52, xA_52, px_53, xA_53, px_54, xA_54, px_55, xA_55, px_56, xA_56, px_57, xA_57, px_58, xA_58, px_59, xA_59, px_60, xA_60, px_61, xA_61, px_62, xA_62, px_63, xA_63, px_64, xA_64, px_65, xA_65, px_66, xA_66, px_67, xA_67, px_68, xA_68, px_69, xA_69, px_70, xf_70_0, xI_70_0, xf_70_1, xI_70_1, xf_70_2, xI_70_2, xf_70_3, xf_70_4, px_71, xA_71, px_72, xA_72, ni_ixL, ni_clL, ni_add, ni_mul, ni_lt, ni_le, ni_eq, ni_clamp, ni_ix, ni_lt0, ni_0le, ni_ltL, ni_Llt, ni_leL, ni_Lle, ni_eqL, ni_addL, ni_Ladd, ni_mulL, ni_Lmul, ni_subL, ni_sub, ni_Lsub, le_t, le_f, lt_t, lt_f, eq_f, il_lt, il_l0, il_g0, il_l1, il_g1, il_l2, il_g2, il_l3, il_g3, il_l4, il_g4, il_l5, il_g5, il_l7, il_g7, il_l8, il_g8, il_l9, il_g9, il_l10, il_g10, il_l15, il_g15, il_l20, il_g20, il_l23, il_g23, il_l24, il_g24, il_l60, il_g60, il_l100, il_g100, il_l999, il_g999, il_l1000, il_g1000, putR_lo, hset_lo, putR_lt hh, rd_hi, wr_hi, hs_1, hs_s, hs_o, uv_s, uv_o, pv_0, pv_n, i1_0, bs_0, bs_1, im_lt, im_ge, im_eq, ni_em, t6, m5, e1, e0, e2, e3, e4, e5, il_32, a6, a7, k30, ← v1, ← v2, ← v3, ← v4]
end
