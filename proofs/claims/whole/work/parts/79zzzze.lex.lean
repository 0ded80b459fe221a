/-! describe: the text as tokens -/
def skF (T : Nat → Int32) : Nat → Nat → Nat
  | 0, i => i
  | t + 1, i => if T i = 32 ∨ T i = 10 then skF T t (i + 1) else i
def wdF (T : Nat → Int32) : Nat → Nat → Nat
  | 0, i => i
  | t + 1, i => if 97 ≤ T i ∧ T i ≤ 122 then wdF T t (i + 1) else i
def wvF (T : Nat → Int32) : Nat → Nat → Int64 → Int64
  | 0, _, v => v
  | n + 1, i, v => wvF T n (i + 1) ((v <<< ((8 : Int32).toInt64 &&& 63)) ||| (T i).toInt64)
/-- the reader -/
def rdC (B : Nat → Value) (R N : Nat) (fa : Int32) (f q : Nat) (c : Int32) (w : Int64) : Nat → Value := updV (updV (updV (updV (updV (updV (updV (updV (updV B 0 (.ref (R + 1))) 8 (.ref (R + 12))) 3 (.ref 6)) 4 (.int (nI N))) 1 (.int fa)) 2 (.int (nI f))) 5 (.int (nI q))) 6 (.int c)) 7 (.long w)
theorem uv_cm {F : Nat → Value} {i j : Nat} {u v : Value} (hij : i ≠ j) : updV (updV F i u) j v = updV (updV F j v) i u := funext fun k => by
  by_cases e1 : k = j
  · subst e1
    rw [uv_s, uv_o _ _ (Ne.symm hij), uv_s]
  · rw [uv_o _ _ e1]
    by_cases e2 : k = i
    · subst e2
      rw [uv_s, uv_s]
    · rw [uv_o _ _ e2, uv_o _ _ e2, uv_o _ _ e1]
theorem uv_u {F : Nat → Value} {i : Nat} {u v : Value} : updV (updV F i u) i v = updV F i v := funext fun k => by
  by_cases e1 : k = i
  · subst e1
    rw [uv_s, uv_s]
  · rw [uv_o _ _ e1, uv_o _ _ e1, uv_o _ _ e1]
section
variable {B : Nat → Value} {R N f q f' q' : Nat} {fa c fa' c' : Int32} {w w' : Int64}
theorem zc_7 : updV (rdC B R N fa f q c w) 7 (.long w') = rdC B R N fa f q c w' := by unfold rdC; rw [uv_u]
theorem zc_6 : updV (rdC B R N fa f q c w) 6 (.int c') = rdC B R N fa f q c' w := by unfold rdC; rw [uv_cm (i := 7) (j := 6) (by decide), uv_u]
theorem zc_5 : updV (rdC B R N fa f q c w) 5 (.int (nI q')) = rdC B R N fa f q' c w := by unfold rdC; rw [uv_cm (i := 7) (j := 5) (by decide), uv_cm (i := 6) (j := 5) (by decide), uv_u]
theorem zc_2 : updV (rdC B R N fa f q c w) 2 (.int (nI f')) = rdC B R N fa f' q c w := by unfold rdC; rw [uv_cm (i := 7) (j := 2) (by decide), uv_cm (i := 6) (j := 2) (by decide), uv_cm (i := 5) (j := 2) (by decide), uv_u]
theorem zc_1 : updV (rdC B R N fa f q c w) 1 (.int fa') = rdC B R N fa' f q c w := by unfold rdC; rw [uv_cm (i := 7) (j := 1) (by decide), uv_cm (i := 6) (j := 1) (by decide), uv_cm (i := 5) (j := 1) (by decide), uv_cm (i := 2) (j := 1) (by decide), uv_u]
theorem zg_b : rdC B R N fa f q c w 0 = .ref (R + 1) := rfl
theorem zg_1 : rdC B R N fa f q c w 1 = .int fa := rfl
theorem zg_2 : rdC B R N fa f q c w 2 = .int (nI f) := rfl
theorem zg_3 : rdC B R N fa f q c w 3 = .ref 6 := rfl
theorem zg_4 : rdC B R N fa f q c w 4 = .int (nI N) := rfl
theorem zg_5 : rdC B R N fa f q c w 5 = .int (nI q) := rfl
theorem zg_6 : rdC B R N fa f q c w 6 = .int c := rfl
theorem zg_7 : rdC B R N fa f q c w 7 = .long w := rfl
theorem zg_8 : rdC B R N fa f q c w 8 = .ref (R + 12) := rfl
end
theorem by_ne : ∀ n, n < 256 → ((sb (nI n) = 32 ↔ nI n = 32) ∧ (sb (nI n) = 10 ↔ nI n = 10) ∧ (97 ≤ sb (nI n) ∧ sb (nI n) ≤ 122 ↔ 97 ≤ nI n ∧ nI n ≤ 122)) ∧ (97 ≤ nI n ∧ nI n ≤ 122 → sb (nI n) = nI n) := by decide +kernel
theorem bt_ne {u : Int32} (hu : isB u) : ((sb u = 32 ↔ u = 32) ∧ (sb u = 10 ↔ u = 10) ∧ (97 ≤ sb u ∧ sb u ≤ 122 ↔ 97 ≤ u ∧ u ≤ 122)) ∧ (97 ≤ u ∧ u ≤ 122 → sb u = u) := by
  obtain ⟨n, hn, rfl⟩ := hu
  exact by_ne n hn
section
variable {K : Nat → pcell} {tb : Nat} {g g' : gS} {r r' r0 : rS} {x x' : xS} {h h' : pheap} {d : Nat} {Q : Option Value → pheap → Prop} {B : Nat → Value} {R N f q i p n : Nat} {fa c e : Int32} {w v : Int64} {T : Nat → Int32}
theorem sk_le : ∀ t i, i ≤ skF T t i ∧ skF T t i ≤ i + t
  | 0, i => ⟨Nat.le_refl _, Nat.le_refl _⟩
  | t + 1, i => by
    unfold skF
    have := sk_le t (i + 1)
    split <;> omega
theorem wd_le : ∀ t i, i ≤ wdF T t i ∧ wdF T t i ≤ i + t
  | 0, i => ⟨Nat.le_refl _, Nat.le_refl _⟩
  | t + 1, i => by
    unfold wdF
    have := wd_le t (i + 1)
    split <;> omega
/-- the class skips blanks -/
theorem x_sk (hh : 146 ≤ h.1) (hR : 146 ≤ R ∧ R < h.1 ∧ (h.2.2 R).1 = 2) (hT : ∀ k, k < N → isB (T k) ∧ x.1 6 k = sb (T k)) (hN : N ≤ 1500) : ∀ t i, i + t = N → Go (d + 1) 13 8 [.ref R] [] (putR r0 (putX x (hC h R (rdC B R N fa i q c w)))) Q = Go (d + 1) 13 60 [.ref R] [] (putR r0 (putX x (hC h R (rdC B R N fa (skF T t i) q c w)))) Q
  | 0, i, hi => by
    obtain ⟨a1, a2, a3⟩ := hR
    obtain rfl : i = N := by omega
    have e : skF T 0 i = i := rfl
    rw [e, e_13_8]
    simp (disch := first | exact c1_i _ | exact c1_r _ | exact c1_n | exact c1_m | omega | assumption | (apply ac_l; omega) | (apply ac_r; omega) | decide | exact Or.inl rfl) only [e_13_9, e_13_12, e_13_12n, e_13_13, e_13_16, Option.toList_some, Option.toList_none, List.cons_append, List.nil_append, catS_cons, catS_nil, cat_int, cat_long, cat_ref, cat_null, c1_i, c1_r, c1_n, c1_m, true_and, and_true, and_self, putR_1, putR_u, eq_self, Nat.reduceLT, Nat.reduceLeDiff, Nat.reduceAdd, Nat.reduceEqDiff, vk_i, vk_l, vk_r, vk_n, vk_0, vk_1, if_true, if_false, not_true_eq_false, not_false_eq_true, false_and, and_false, ne_eq, true_or, or_true, ite_not, reduceCtorEq, putX_1, putX_u, putX_hi, hset_Xhi, px_5, xf_5_0, xf_5_1, xI_5_1, xf_5_2, xR_0, xf_5_3, xI_5_3, xf_5_4, xI_5_4, xf_5_5, xf_5_6, xI_5_6, xf_5_7, xf_5_8, xf_5_9, xf_5_10, xf_5_11, xf_5_12, xf_5_13, xf_5_14, xf_5_15, xI_5_15, px_6, xA_6, px_18, xA_18, px_19, xf_19_0, xI_19_0, xf_19_1, xR_1, xf_19_2, xI_19_2, px_20, xf_20_0, xI_20_0, xf_20_1, xR_2, xf_20_2, xI_20_2, px_21, xf_21_0, xI_21_0, xf_21_1, xR_3, xf_21_2, xI_21_2, px_22, xf_22_0, xI_22_0, xf_22_1, xR_4, xf_22_2, xI_22_2, px_23, xf_23_0, xI_23_0, xf_23_1, xR_5, xf_23_2, xI_23_2, px_24, xf_24_0, xI_24_0, xf_24_1, xR_6, xf_24_2, xI_24_2, px_25, xf_25_0, xI_25_0, xf_25_1, xI_25_1, xf_25_2, xf_25_3, xI_25_3, xf_25_4, xf_25_5, xf_25_6, px_26, xA_26, px_27, px_28, xA_28, px_29, xA_29, px_30, xA_30, px_31, xA_31, px_32, xA_32, px_33, xA_33, px_34, xA_34, px_35, xA_35, px_36, xA_36, px_37, xA_37, px_38, xA_38, px_39, xA_39, px_40, xA_40, px_41, xA_41, px_42, xA_42, px_43, xA_43, px_44, xA_44, px_45, xA_45, px_46, xA_46, px_47, xA_47, px_48, xA_48, px_49, xA_49, px_50, xA_50, px_51, xA_51, px_52, xA_52, px_53, xA_53, px_54, xA_54, px_55, xA_55, px_56, xA_56, px_57, xA_57, px_58, xA_58, px_59, xA_59, px_60, xA_60, px_61, xA_61, px_62, xA_62, px_63, xA_63, px_64, xA_64, px_65, xA_65, px_66, xA_66, px_67, xA_67, px_68, xA_68, px_69, xA_69, px_70, xf_70_0, xI_70_0, xf_70_1, xI_70_1, xf_70_2, xI_70_2, xf_70_3, xf_70_4, px_71, xA_71, px_72, xA_72, ni_ixL, ni_clL, ni_add, ni_mul, ni_lt, ni_le, ni_eq, ni_clamp, ni_ix, ni_lt0, ni_0le, ni_ltL, ni_Llt, ni_leL, ni_Lle, ni_eqL, ni_addL, ni_Ladd, ni_mulL, ni_Lmul, ni_subL, ni_sub, ni_Lsub, le_t, le_f, lt_t, lt_f, eq_f, il_lt, il_l0, il_g0, il_l1, il_g1, il_l2, il_g2, il_l3, il_g3, il_l4, il_g4, il_l5, il_g5, il_l7, il_g7, il_l8, il_g8, il_l9, il_g9, il_l10, il_g10, il_l15, il_g15, il_l20, il_g20, il_l23, il_g23, il_l24, il_g24, il_l60, il_g60, il_l100, il_g100, il_l999, il_g999, il_l1000, il_g1000, putR_lo, hset_lo, putR_lt hh, rd_hi, wr_hi, hs_1, hs_s, hs_o, uv_s, uv_o, pv_0, pv_n, i1_0, bs_0, bs_1, im_lt, im_ge, im_eq, ni_em, hC_1, hC_s, a3, zg_2, zg_4]
  | t + 1, i, hi => by
    have hR' := hR
    obtain ⟨a1, a2, a3⟩ := hR
    obtain ⟨b1, b2⟩ := hT i (by omega)
    obtain ⟨⟨y1, y2, y3⟩, y4⟩ := bt_ne b1
    by_cases e : T i = 32 ∨ T i = 10
    · have e1 : skF T (t + 1) i = skF T t (i + 1) := if_pos e
      rw [e1, ← x_sk hh hR' hT hN t (i + 1) (by omega), e_13_8]
      rcases e with e | e
      · have e2 : x.1 6 i = 32 := by rw [b2]; exact y1.mpr e
        simp (disch := first | exact c1_i _ | exact c1_r _ | exact c1_n | exact c1_m | omega | assumption | (apply ac_l; omega) | (apply ac_r; omega) | decide | exact Or.inl rfl) only [e_13_9, e_13_12, e_13_12n, e_13_13, e_13_16, e_13_19, e_13_19n, e_13_20, e_13_23, e_13_23n, e_13_24, e_13_27, e_13_28, e_13_30, e_13_47, e_13_47n, e_13_48, e_13_49, e_13_52, e_13_53, e_13_54, e_13_57, Option.toList_some, Option.toList_none, List.cons_append, List.nil_append, catS_cons, catS_nil, cat_int, cat_long, cat_ref, cat_null, c1_i, c1_r, c1_n, c1_m, true_and, and_true, and_self, putR_1, putR_u, eq_self, Nat.reduceLT, Nat.reduceLeDiff, Nat.reduceAdd, Nat.reduceEqDiff, vk_i, vk_l, vk_r, vk_n, vk_0, vk_1, if_true, if_false, not_true_eq_false, not_false_eq_true, false_and, and_false, ne_eq, true_or, or_true, ite_not, reduceCtorEq, putX_1, putX_u, putX_hi, hset_Xhi, px_5, xf_5_0, xf_5_1, xI_5_1, xf_5_2, xR_0, xf_5_3, xI_5_3, xf_5_4, xI_5_4, xf_5_5, xf_5_6, xI_5_6, xf_5_7, xf_5_8, xf_5_9, xf_5_10, xf_5_11, xf_5_12, xf_5_13, xf_5_14, xf_5_15, xI_5_15, px_6, xA_6, px_18, xA_18, px_19, xf_19_0, xI_19_0, xf_19_1, xR_1, xf_19_2, xI_19_2, px_20, xf_20_0, xI_20_0, xf_20_1, xR_2, xf_20_2, xI_20_2, px_21, xf_21_0, xI_21_0, xf_21_1, xR_3, xf_21_2, xI_21_2, px_22, xf_22_0, xI_22_0, xf_22_1, xR_4, xf_22_2, xI_22_2, px_23, xf_23_0, xI_23_0, xf_23_1, xR_5, xf_23_2, xI_23_2, px_24, xf_24_0, xI_24_0, xf_24_1, xR_6, xf_24_2, xI_24_2, px_25, xf_25_0, xI_25_0, xf_25_1, xI_25_1, xf_25_2, xf_25_3, xI_25_3, xf_25_4, xf_25_5, xf_25_6, px_26, xA_26, px_27, px_28, xA_28, px_29, xA_29, px_30, xA_30, px_31, xA_31, px_32, xA_32, px_33, xA_33, px_34, xA_34, px_35, xA_35, px_36, xA_36, px_37, xA_37, px_38, xA_38, px_39, xA_39, px_40, xA_40, px_41, xA_41, px_42, xA_42, px_43, xA_43, px_44, xA_44, px_45, xA_45, px_46, xA_46, px_47, xA_47, px_48, xA_48, px_49, xA_49, px_50, xA_50, px_51, xA_51, px_52, xA_52, px_53, xA_53, px_54, xA_54, px_55, xA_55, px_56, xA_56, px_57, xA_57, px_58, xA_58, px_59, xA_59, px_60, xA_60, px_61, xA_61, px_62, xA_62, px_63, xA_63, px_64, xA_64, px_65, xA_65, px_66, xA_66, px_67, xA_67, px_68, xA_68, px_69, xA_69, px_70, xf_70_0, xI_70_0, xf_70_1, xI_70_1, xf_70_2, xI_70_2, xf_70_3, xf_70_4, px_71, xA_71, px_72, xA_72, ni_ixL, ni_clL, ni_add, ni_mul, ni_lt, ni_le, ni_eq, ni_clamp, ni_ix, ni_lt0, ni_0le, ni_ltL, ni_Llt, ni_leL, ni_Lle, ni_eqL, ni_addL, ni_Ladd, ni_mulL, ni_Lmul, ni_subL, ni_sub, ni_Lsub, le_t, le_f, lt_t, lt_f, eq_f, il_lt, il_l0, il_g0, il_l1, il_g1, il_l2, il_g2, il_l3, il_g3, il_l4, il_g4, il_l5, il_g5, il_l7, il_g7, il_l8, il_g8, il_l9, il_g9, il_l10, il_g10, il_l15, il_g15, il_l20, il_g20, il_l23, il_g23, il_l24, il_g24, il_l60, il_g60, il_l100, il_g100, il_l999, il_g999, il_l1000, il_g1000, putR_lo, hset_lo, putR_lt hh, rd_hi, wr_hi, hs_1, hs_s, hs_o, uv_s, uv_o, pv_0, pv_n, i1_0, bs_0, bs_1, im_lt, im_ge, im_eq, ni_em, hC_1, hC_s, a3, zg_2, zg_3, zg_4, e2, hset_C, zc_2]
      · have e2 : x.1 6 i = 10 := by rw [b2]; exact y2.mpr e
        have e3 : ¬ (10 : Int32) = 32 := by decide
        simp (disch := first | exact c1_i _ | exact c1_r _ | exact c1_n | exact c1_m | omega | assumption | (apply ac_l; omega) | (apply ac_r; omega) | decide | exact Or.inl rfl) only [e_13_9, e_13_12, e_13_12n, e_13_13, e_13_16, e_13_19, e_13_19n, e_13_20, e_13_23, e_13_23n, e_13_24, e_13_27, e_13_28, e_13_30, e_13_33, e_13_33n, e_13_34, e_13_37, e_13_37n, e_13_38, e_13_41, e_13_42, e_13_44, e_13_47, e_13_47n, e_13_48, e_13_49, e_13_52, e_13_53, e_13_54, e_13_57, Option.toList_some, Option.toList_none, List.cons_append, List.nil_append, catS_cons, catS_nil, cat_int, cat_long, cat_ref, cat_null, c1_i, c1_r, c1_n, c1_m, true_and, and_true, and_self, putR_1, putR_u, eq_self, Nat.reduceLT, Nat.reduceLeDiff, Nat.reduceAdd, Nat.reduceEqDiff, vk_i, vk_l, vk_r, vk_n, vk_0, vk_1, if_true, if_false, not_true_eq_false, not_false_eq_true, false_and, and_false, ne_eq, true_or, or_true, ite_not, reduceCtorEq, putX_1, putX_u, putX_hi, hset_Xhi, px_5, xf_5_0, xf_5_1, xI_5_1, xf_5_2, xR_0, xf_5_3, xI_5_3, xf_5_4, xI_5_4, xf_5_5, xf_5_6, xI_5_6, xf_5_7, xf_5_8, xf_5_9, xf_5_10, xf_5_11, xf_5_12, xf_5_13, xf_5_14, xf_5_15, xI_5_15, px_6, xA_6, px_18, xA_18, px_19, xf_19_0, xI_19_0, xf_19_1, xR_1, xf_19_2, xI_19_2, px_20, xf_20_0, xI_20_0, xf_20_1, xR_2, xf_20_2, xI_20_2, px_21, xf_21_0, xI_21_0, xf_21_1, xR_3, xf_21_2, xI_21_2, px_22, xf_22_0, xI_22_0, xf_22_1, xR_4, xf_22_2, xI_22_2, px_23, xf_23_0, xI_23_0, xf_23_1, xR_5, xf_23_2, xI_23_2, px_24, xf_24_0, xI_24_0, xf_24_1, xR_6, xf_24_2, xI_24_2, px_25, xf_25_0, xI_25_0, xf_25_1, xI_25_1, xf_25_2, xf_25_3, xI_25_3, xf_25_4, xf_25_5, xf_25_6, px_26, xA_26, px_27, px_28, xA_28, px_29, xA_29, px_30, xA_30, px_31, xA_31, px_32, xA_32, px_33, xA_33, px_34, xA_34, px_35, xA_35, px_36, xA_36, px_37, xA_37, px_38, xA_38, px_39, xA_39, px_40, xA_40, px_41, xA_41, px_42, xA_42, px_43, xA_43, px_44, xA_44, px_45, xA_45, px_46, xA_46, px_47, xA_47, px_48, xA_48, px_49, xA_49, px_50, xA_50, px_51, xA_51, px_52, xA_52, px_53, xA_53, px_54, xA_54, px_55, xA_55, px_56, xA_56, px_57, xA_57, px_58, xA_58, px_59, xA_59, px_60, xA_60, px_61, xA_61, px_62, xA_62, px_63, xA_63, px_64, xA_64, px_65, xA_65, px_66, xA_66, px_67, xA_67, px_68, xA_68, px_69, xA_69, px_70, xf_70_0, xI_70_0, xf_70_1, xI_70_1, xf_70_2, xI_70_2, xf_70_3, xf_70_4, px_71, xA_71, px_72, xA_72, ni_ixL, ni_clL, ni_add, ni_mul, ni_lt, ni_le, ni_eq, ni_clamp, ni_ix, ni_lt0, ni_0le, ni_ltL, ni_Llt, ni_leL, ni_Lle, ni_eqL, ni_addL, ni_Ladd, ni_mulL, ni_Lmul, ni_subL, ni_sub, ni_Lsub, le_t, le_f, lt_t, lt_f, eq_f, il_lt, il_l0, il_g0, il_l1, il_g1, il_l2, il_g2, il_l3, il_g3, il_l4, il_g4, il_l5, il_g5, il_l7, il_g7, il_l8, il_g8, il_l9, il_g9, il_l10, il_g10, il_l15, il_g15, il_l20, il_g20, il_l23, il_g23, il_l24, il_g24, il_l60, il_g60, il_l100, il_g100, il_l999, il_g999, il_l1000, il_g1000, putR_lo, hset_lo, putR_lt hh, rd_hi, wr_hi, hs_1, hs_s, hs_o, uv_s, uv_o, pv_0, pv_n, i1_0, bs_0, bs_1, im_lt, im_ge, im_eq, ni_em, hC_1, hC_s, a3, zg_2, zg_3, zg_4, e2, e3, hset_C, zc_2]
    · have e1 : skF T (t + 1) i = i := if_neg e
      have e2 : ¬ x.1 6 i = 32 := by rw [b2]; exact fun y => e (Or.inl (y1.mp y))
      have e3 : ¬ x.1 6 i = 10 := by rw [b2]; exact fun y => e (Or.inr (y2.mp y))
      rw [e1, e_13_8]
      simp (disch := first | exact c1_i _ | exact c1_r _ | exact c1_n | exact c1_m | omega | assumption | (apply ac_l; omega) | (apply ac_r; omega) | decide | exact Or.inl rfl) only [e_13_9, e_13_12, e_13_12n, e_13_13, e_13_16, e_13_19, e_13_19n, e_13_20, e_13_23, e_13_23n, e_13_24, e_13_27, e_13_28, e_13_30, e_13_33, e_13_33n, e_13_34, e_13_37, e_13_37n, e_13_38, e_13_41, e_13_42, e_13_44, Option.toList_some, Option.toList_none, List.cons_append, List.nil_append, catS_cons, catS_nil, cat_int, cat_long, cat_ref, cat_null, c1_i, c1_r, c1_n, c1_m, true_and, and_true, and_self, putR_1, putR_u, eq_self, Nat.reduceLT, Nat.reduceLeDiff, Nat.reduceAdd, Nat.reduceEqDiff, vk_i, vk_l, vk_r, vk_n, vk_0, vk_1, if_true, if_false, not_true_eq_false, not_false_eq_true, false_and, and_false, ne_eq, true_or, or_true, ite_not, reduceCtorEq, putX_1, putX_u, putX_hi, hset_Xhi, px_5, xf_5_0, xf_5_1, xI_5_1, xf_5_2, xR_0, xf_5_3, xI_5_3, xf_5_4, xI_5_4, xf_5_5, xf_5_6, xI_5_6, xf_5_7, xf_5_8, xf_5_9, xf_5_10, xf_5_11, xf_5_12, xf_5_13, xf_5_14, xf_5_15, xI_5_15, px_6, xA_6, px_18, xA_18, px_19, xf_19_0, xI_19_0, xf_19_1, xR_1, xf_19_2, xI_19_2, px_20, xf_20_0, xI_20_0, xf_20_1, xR_2, xf_20_2, xI_20_2, px_21, xf_21_0, xI_21_0, xf_21_1, xR_3, xf_21_2, xI_21_2, px_22, xf_22_0, xI_22_0, xf_22_1, xR_4, xf_22_2, xI_22_2, px_23, xf_23_0, xI_23_0, xf_23_1, xR_5, xf_23_2, xI_23_2, px_24, xf_24_0, xI_24_0, xf_24_1, xR_6, xf_24_2, xI_24_2, px_25, xf_25_0, xI_25_0, xf_25_1, xI_25_1, xf_25_2, xf_25_3, xI_25_3, xf_25_4, xf_25_5, xf_25_6, px_26, xA_26, px_27, px_28, xA_28, px_29, xA_29, px_30, xA_30, px_31, xA_31, px_32, xA_32, px_33, xA_33, px_34, xA_34, px_35, xA_35, px_36, xA_36, px_37, xA_37, px_38, xA_38, px_39, xA_39, px_40, xA_40, px_41, xA_41, px_42, xA_42, px_43, xA_43, px_44, xA_44, px_45, xA_45, px_46, xA_46, px_47, xA_47, px_48, xA_48, px_49, xA_49, px_50, xA_50, px_51, xA_51, px_52, xA_52, px_53, xA_53, px_54, xA_54, px_55, xA_55, px_56, xA_56, px_57, xA_57, px_58, xA_58, px_59, xA_59, px_60, xA_60, px_61, xA_61, px_62, xA_62, px_63, xA_63, px_64, xA_64, px_65, xA_65, px_66, xA_66, px_67, xA_67, px_68, xA_68, px_69, xA_69, px_70, xf_70_0, xI_70_0, xf_70_1, xI_70_1, xf_70_2, xI_70_2, xf_70_3, xf_70_4, px_71, xA_71, px_72, xA_72, ni_ixL, ni_clL, ni_add, ni_mul, ni_lt, ni_le, ni_eq, ni_clamp, ni_ix, ni_lt0, ni_0le, ni_ltL, ni_Llt, ni_leL, ni_Lle, ni_eqL, ni_addL, ni_Ladd, ni_mulL, ni_Lmul, ni_subL, ni_sub, ni_Lsub, le_t, le_f, lt_t, lt_f, eq_f, il_lt, il_l0, il_g0, il_l1, il_g1, il_l2, il_g2, il_l3, il_g3, il_l4, il_g4, il_l5, il_g5, il_l7, il_g7, il_l8, il_g8, il_l9, il_g9, il_l10, il_g10, il_l15, il_g15, il_l20, il_g20, il_l23, il_g23, il_l24, il_g24, il_l60, il_g60, il_l100, il_g100, il_l999, il_g999, il_l1000, il_g1000, putR_lo, hset_lo, putR_lt hh, rd_hi, wr_hi, hs_1, hs_s, hs_o, uv_s, uv_o, pv_0, pv_n, i1_0, bs_0, bs_1, im_lt, im_ge, im_eq, ni_em, hC_1, hC_s, a3, zg_2, zg_3, zg_4, e2, e3]
end
