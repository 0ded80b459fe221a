section
variable {d L i : Nat} {xs : Nat → Int32} {H : pheap} {Q : Option Value → pheap → Prop}
theorem lw_lt (hL : L ≤ 3072) (hi : i ≤ 4000) : (nI L - 6 < nI i) = (L < i + 6) := by
  by_cases h6 : 6 ≤ L
  · have e : nI L - 6 = nI (L - 6) := ni_sub h6
    rw [e, ni_lt (by omega) (by omega)]
    exact propext ⟨fun h => by omega, fun h => by omega⟩
  · have h1 : ∀ L, L < 6 → nI L - 6 < 0 := by decide
    have h2 : ¬ nI i < 0 := by
      show ¬ nI i < nI 0
      rw [ni_lt (by omega) (by omega)]
      omega
    have h3 := h1 L (by omega)
    have h4 : nI L - 6 < nI i := Int32.lt_of_lt_of_le h3 (Int32.not_lt.mp h2)
    exact propext ⟨fun _ => by omega, fun _ => h4⟩
/-- the script is at its end -/
theorem lw_end (h0 : H.2.2 0 = (20, L, fun j => .int (xs j))) (h1 : 146 ≤ H.1) (hL : L ≤ 3072) (hi : i ≤ 4000) (hl : L < i + 6) : Go (d + 101) 287 18 [.ref 0, .ref 5, .ref 73, .int (nI i)] [] H Q = Q (some (.int 1)) H := by
  have e := eq_true hl
  rw [← lw_lt hL hi] at e
  have e' : nI L - 6 < nI i := of_eq_true e
  simp (disch := first | exact c1_i _ | exact c1_r _ | exact c1_n | exact c1_m | omega | assumption | (apply ac_l; omega) | (apply ac_r; omega) | decide | exact Or.inl rfl) only [e_287_18, e_287_19, e_287_19n, e_287_20, e_287_21, e_287_23, e_287_24, e_287_1461, e_287_1462, Option.toList_some, Option.toList_none, List.cons_append, List.nil_append, catS_cons, catS_nil, cat_int, cat_long, cat_ref, cat_null, c1_i, c1_r, c1_n, c1_m, true_and, and_true, and_self, putR_1, putR_u, eq_self, Nat.reduceLT, Nat.reduceLeDiff, Nat.reduceAdd, Nat.reduceEqDiff, vk_i, vk_l, vk_r, vk_n, vk_0, vk_1, if_true, if_false, not_true_eq_false, not_false_eq_true, false_and, and_false, ne_eq, true_or, or_true, ite_not, reduceCtorEq, ni_ixL, ni_clL, ni_add, ni_mul, ni_lt, ni_le, ni_eq, ni_clamp, ni_ix, ni_lt0, ni_0le, ni_ltL, ni_Llt, ni_leL, ni_Lle, ni_eqL, ni_addL, ni_Ladd, ni_mulL, ni_Lmul, ni_subL, ni_sub, ni_Lsub, le_t, le_f, lt_t, lt_f, eq_f, il_lt, il_l0, il_g0, il_l1, il_g1, il_l2, il_g2, il_l3, il_g3, il_l4, il_g4, il_l5, il_g5, il_l7, il_g7, il_l8, il_g8, il_l9, il_g9, il_l10, il_g10, il_l15, il_g15, il_l20, il_g20, il_l23, il_g23, il_l24, il_g24, il_l60, il_g60, il_l100, il_g100, il_l999, il_g999, il_l1000, il_g1000, h0, e']
/-- the next call -/
theorem lw_go (h0 : H.2.2 0 = (20, L, fun j => .int (xs j))) (h1 : 146 ≤ H.1) (hL : L ≤ 3072) (hi : i + 6 ≤ L) : Go (d + 101) 287 18 [.ref 0, .ref 5, .ref 73, .int (nI i)] [] H Q = Go (d + 101) 287 33 [.ref 0, .ref 5, .ref 73, .int (nI i)] [.int (xs i &&& 63)] H Q := by
  have e : ¬ nI L - 6 < nI i := by
    rw [lw_lt hL (by omega)]
    omega
  simp (disch := first | exact c1_i _ | exact c1_r _ | exact c1_n | exact c1_m | omega | assumption | (apply ac_l; omega) | (apply ac_r; omega) | decide | exact Or.inl rfl) only [e_287_18, e_287_19, e_287_19n, e_287_20, e_287_21, e_287_23, e_287_24, e_287_27, e_287_27n, e_287_28, e_287_29, e_287_30, e_287_32, Option.toList_some, Option.toList_none, List.cons_append, List.nil_append, catS_cons, catS_nil, cat_int, cat_long, cat_ref, cat_null, c1_i, c1_r, c1_n, c1_m, true_and, and_true, and_self, putR_1, putR_u, eq_self, Nat.reduceLT, Nat.reduceLeDiff, Nat.reduceAdd, Nat.reduceEqDiff, vk_i, vk_l, vk_r, vk_n, vk_0, vk_1, if_true, if_false, not_true_eq_false, not_false_eq_true, false_and, and_false, ne_eq, true_or, or_true, ite_not, reduceCtorEq, ni_ixL, ni_clL, ni_add, ni_mul, ni_lt, ni_le, ni_eq, ni_clamp, ni_ix, ni_lt0, ni_0le, ni_ltL, ni_Llt, ni_leL, ni_Lle, ni_eqL, ni_addL, ni_Ladd, ni_mulL, ni_Lmul, ni_subL, ni_sub, ni_Lsub, le_t, le_f, lt_t, lt_f, eq_f, il_lt, il_l0, il_g0, il_l1, il_g1, il_l2, il_g2, il_l3, il_g3, il_l4, il_g4, il_l5, il_g5, il_l7, il_g7, il_l8, il_g8, il_l9, il_g9, il_l10, il_g10, il_l15, il_g15, il_l20, il_g20, il_l23, il_g23, il_l24, il_g24, il_l60, il_g60, il_l100, il_g100, il_l999, il_g999, il_l1000, il_g1000, h0, e]
/-- no call -/
theorem lw_no : Go (d + 101) 287 1455 [.ref 0, .ref 5, .ref 73, .int (nI i)] [] H Q = Go (d + 101) 287 18 [.ref 0, .ref 5, .ref 73, .int (nI (i + 6))] [] H Q := by
  have e6 : nI i + 6 = nI (i + 6) := ni_add _ 6
  simp (disch := first | exact c1_i _ | exact c1_r _ | exact c1_n | exact c1_m | omega | assumption | (apply ac_l; omega) | (apply ac_r; omega) | decide | exact Or.inl rfl) only [e_287_1455, e_287_1458, Option.toList_some, Option.toList_none, List.cons_append, List.nil_append, catS_cons, catS_nil, cat_int, cat_long, cat_ref, cat_null, c1_i, c1_r, c1_n, c1_m, true_and, and_true, and_self, putR_1, putR_u, eq_self, Nat.reduceLT, Nat.reduceLeDiff, Nat.reduceAdd, Nat.reduceEqDiff, vk_i, vk_l, vk_r, vk_n, vk_0, vk_1, if_true, if_false, not_true_eq_false, not_false_eq_true, false_and, and_false, ne_eq, true_or, or_true, ite_not, reduceCtorEq, ni_ixL, ni_clL, ni_add, ni_mul, ni_lt, ni_le, ni_eq, ni_clamp, ni_ix, ni_lt0, ni_0le, ni_ltL, ni_Llt, ni_leL, ni_Lle, ni_eqL, ni_addL, ni_Ladd, ni_mulL, ni_Lmul, ni_subL, ni_sub, ni_Lsub, le_t, le_f, lt_t, lt_f, eq_f, il_lt, il_l0, il_g0, il_l1, il_g1, il_l2, il_g2, il_l3, il_g3, il_l4, il_g4, il_l5, il_g5, il_l7, il_g7, il_l8, il_g8, il_l9, il_g9, il_l10, il_g10, il_l15, il_g15, il_l20, il_g20, il_l23, il_g23, il_l24, il_g24, il_l60, il_g60, il_l100, il_g100, il_l999, il_g999, il_l1000, il_g1000, e6]
end
