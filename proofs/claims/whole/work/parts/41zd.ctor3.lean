section
variable {d a b f t n k i j : Nat} {H h : pheap} {Q : Option Value → pheap → Prop} {v : Value} {V1 V2 : Value} {F : Nat → Value}
def wC (h : pheap) (b : Nat) (F : Nat → Value) : pheap := (h.1, h.2.1, fun a => if a = b then ((h.2.2 b).1, (h.2.2 b).2.1, F) else h.2.2 a)
theorem wC_1 : (wC h b F).1 = h.1 := rfl
theorem wC_s : (wC h b F).2.2 b = ((h.2.2 b).1, (h.2.2 b).2.1, F) := if_pos rfl
theorem wC_o (ha : a ≠ b) : (wC h b F).2.2 a = h.2.2 a := if_neg ha
theorem wC_h : hset (wC h b F) b k v = wC h b (updV F k v) := by
  unfold hset wC
  refine Prod.ext rfl (Prod.ext rfl (funext fun a => ?_))
  dsimp only
  by_cases ha : a = b
  · rw [if_pos ha, if_pos rfl, if_pos ha]
  · rw [if_neg ha, if_neg ha, if_neg ha]
theorem wC_i : wC h b (h.2.2 b).2.2 = h := by
  unfold wC
  refine Prod.ext rfl (Prod.ext rfl (funext fun a => ?_))
  dsimp only
  by_cases ha : a = b
  · rw [if_pos ha, ha]
  · rw [if_neg ha]
def knF (F : Nat → Value) (m : Nat) : Nat → Value := fun k => if k < m then .int 1 else F k
theorem kn_u (m : Nat) : updV (knF F m) m (.int 1) = knF F (m + 1) := funext fun k => by
  unfold updV knF
  by_cases h1 : k = m
  · rw [if_pos h1, if_pos (by omega)]
  · rw [if_neg h1]
    by_cases h2 : k < m
    · rw [if_pos h2, if_pos (by omega)]
    · rw [if_neg h2, if_neg (by omega)]
theorem kn_in (h1 : 73 < H.1) (h2 : b < H.1) (h3 : (H.2.2 73).1 = 13) (h4 : (H.2.2 73).2.2 35 = .ref b) (h5 : (H.2.2 b).1 = 23) (h6 : (H.2.2 b).2.1 = 72) (hb : 73 ≠ b) (hb5 : 5 ≤ b) (hi : i < 8) : ∀ m j, j + m = 9 → Go (d + 1) 170 612 [.ref 73, .int (nI i), .int (nI j)] [] (wC H b (knF F (9 * i + j))) Q = Go (d + 1) 170 636 [.ref 73, .int (nI i), .int (nI 9)] [] (wC H b (knF F (9 * i + 9))) Q
  | 0, j, hj => by
    obtain rfl : j = 9 := by omega
    have g : ¬ nI 9 < (9 : Int32) := by decide
    rw [e_170_612]
    simp (disch := first | exact c1_i _ | exact c1_r _ | exact c1_n | exact c1_m | omega | assumption | (apply ac_l; omega) | (apply ac_r; omega) | decide | exact Or.inl rfl) only [e_170_613, e_170_615, Option.toList_some, Option.toList_none, List.cons_append, List.nil_append, catS_cons, catS_nil, cat_int, cat_long, cat_ref, cat_null, c1_i, c1_r, c1_n, c1_m, true_and, and_true, and_self, putR_1, putR_u, eq_self, Nat.reduceLT, Nat.reduceLeDiff, Nat.reduceAdd, Nat.reduceEqDiff, vk_i, vk_l, vk_r, vk_n, vk_0, vk_1, if_true, if_false, not_true_eq_false, not_false_eq_true, false_and, and_false, ne_eq, true_or, or_true, ite_not, reduceCtorEq, ni_ixL, ni_clL, ni_add, ni_mul, ni_lt, ni_le, ni_eq, ni_clamp, ni_ix, ni_lt0, ni_0le, ni_ltL, ni_Llt, ni_leL, ni_Lle, ni_eqL, ni_addL, ni_Ladd, ni_mulL, ni_Lmul, ni_subL, ni_sub, ni_Lsub, le_t, le_f, lt_t, lt_f, eq_f, il_lt, il_l0, il_g0, il_l1, il_g1, il_l2, il_g2, il_l3, il_g3, il_l4, il_g4, il_l5, il_g5, il_l7, il_g7, il_l8, il_g8, il_l9, il_g9, il_l10, il_g10, il_l15, il_g15, il_l20, il_g20, il_l23, il_g23, il_l24, il_g24, il_l60, il_g60, il_l100, il_g100, il_l999, il_g999, il_l1000, il_g1000, g]
  | m + 1, j, hj => by
    have e0 := wC_o (h := H) (b := b) (F := knF F (9 * i + j)) hb
    have e1 := wC_s (h := H) (b := b) (F := knF F (9 * i + j))
    have l1 : 73 < (wC H b (knF F (9 * i + j))).1 := h1
    have l2 : b < (wC H b (knF F (9 * i + j))).1 := h2
    have e3 : nI j + 1 = nI (j + 1) := ni_add _ 1
    have e4 : (9 : Int32) * nI i = nI (9 * i) := ni_mul 9 i
    have e5 : nI (9 * i) + nI j = nI (9 * i + j) := ni_add _ _
    have e6 : 9 * i + j < 72 := by omega
    have g : nI j < (9 : Int32) := by
      show nI j < nI 9
      rw [ni_lt (by omega) (by omega)]
      omega
    have ih := kn_in h1 h2 h3 h4 h5 h6 hb hb5 hi m (j + 1) (by omega)
    rw [← ih, e_170_612]
    have bs : bsto 23 1 = 1 := by decide
    simp (disch := first | exact c1_i _ | exact c1_r _ | exact c1_n | exact c1_m | omega | assumption | (apply ac_l; omega) | (apply ac_r; omega) | decide | exact Or.inl rfl) only [e_170_613, e_170_615, e_170_618, e_170_618n, e_170_619, e_170_622, e_170_624, e_170_625, e_170_626, e_170_627, e_170_628, e_170_629, e_170_630, e_170_633, Option.toList_some, Option.toList_none, List.cons_append, List.nil_append, catS_cons, catS_nil, cat_int, cat_long, cat_ref, cat_null, c1_i, c1_r, c1_n, c1_m, true_and, and_true, and_self, putR_1, putR_u, eq_self, Nat.reduceLT, Nat.reduceLeDiff, Nat.reduceAdd, Nat.reduceEqDiff, vk_i, vk_l, vk_r, vk_n, vk_0, vk_1, if_true, if_false, not_true_eq_false, not_false_eq_true, false_and, and_false, ne_eq, true_or, or_true, ite_not, reduceCtorEq, ni_ixL, ni_clL, ni_add, ni_mul, ni_lt, ni_le, ni_eq, ni_clamp, ni_ix, ni_lt0, ni_0le, ni_ltL, ni_Llt, ni_leL, ni_Lle, ni_eqL, ni_addL, ni_Ladd, ni_mulL, ni_Lmul, ni_subL, ni_sub, ni_Lsub, le_t, le_f, lt_t, lt_f, eq_f, il_lt, il_l0, il_g0, il_l1, il_g1, il_l2, il_g2, il_l3, il_g3, il_l4, il_g4, il_l5, il_g5, il_l7, il_g7, il_l8, il_g8, il_l9, il_g9, il_l10, il_g10, il_l15, il_g15, il_l20, il_g20, il_l23, il_g23, il_l24, il_g24, il_l60, il_g60, il_l100, il_g100, il_l999, il_g999, il_l1000, il_g1000, g, e0, e1, h3, h4, h5, h6, e3, e4, e5, bs, wC_1, wC_h, kn_u]
    rfl
theorem kn_out (h1 : 73 < H.1) (h2 : b < H.1) (h3 : (H.2.2 73).1 = 13) (h4 : (H.2.2 73).2.2 35 = .ref b) (h5 : (H.2.2 b).1 = 23) (h6 : (H.2.2 b).2.1 = 72) (hb : 73 ≠ b) (hb5 : 5 ≤ b) : ∀ m i V2, i + m = 8 → Go (d + 1) 170 604 [.ref 73, .int (nI i), V2] [] (wC H b (knF F (9 * i))) Q = Q none (wC H b (knF F 72))
  | 0, i, V2, hi => by
    obtain rfl : i = 8 := by omega
    have g : ¬ nI 8 < (8 : Int32) := by decide
    rw [e_170_604]
    simp (disch := first | exact c1_i _ | exact c1_r _ | exact c1_n | exact c1_m | omega | assumption | (apply ac_l; omega) | (apply ac_r; omega) | decide | exact Or.inl rfl) only [e_170_605, e_170_607, e_170_642, Option.toList_some, Option.toList_none, List.cons_append, List.nil_append, catS_cons, catS_nil, cat_int, cat_long, cat_ref, cat_null, c1_i, c1_r, c1_n, c1_m, true_and, and_true, and_self, putR_1, putR_u, eq_self, Nat.reduceLT, Nat.reduceLeDiff, Nat.reduceAdd, Nat.reduceEqDiff, vk_i, vk_l, vk_r, vk_n, vk_0, vk_1, if_true, if_false, not_true_eq_false, not_false_eq_true, false_and, and_false, ne_eq, true_or, or_true, ite_not, reduceCtorEq, ni_ixL, ni_clL, ni_add, ni_mul, ni_lt, ni_le, ni_eq, ni_clamp, ni_ix, ni_lt0, ni_0le, ni_ltL, ni_Llt, ni_leL, ni_Lle, ni_eqL, ni_addL, ni_Ladd, ni_mulL, ni_Lmul, ni_subL, ni_sub, ni_Lsub, le_t, le_f, lt_t, lt_f, eq_f, il_lt, il_l0, il_g0, il_l1, il_g1, il_l2, il_g2, il_l3, il_g3, il_l4, il_g4, il_l5, il_g5, il_l7, il_g7, il_l8, il_g8, il_l9, il_g9, il_l10, il_g10, il_l15, il_g15, il_l20, il_g20, il_l23, il_g23, il_l24, il_g24, il_l60, il_g60, il_l100, il_g100, il_l999, il_g999, il_l1000, il_g1000, g]
  | m + 1, i, V2, hi => by
    have g : nI i < (8 : Int32) := by
      show nI i < nI 8
      rw [ni_lt (by omega) (by omega)]
      omega
    have e3 : nI i + 1 = nI (i + 1) := ni_add _ 1
    have ih := fun V2 => kn_out h1 h2 h3 h4 h5 h6 hb hb5 m (i + 1) V2 (by omega)
    have p1 := kn_in (d := d) (Q := Q) (F := F) h1 h2 h3 h4 h5 h6 hb hb5 (i := i) (by omega) 9 0 rfl
    have st : Go (d + 1) 170 604 [.ref 73, .int (nI i), V2] [] (wC H b (knF F (9 * i))) Q = Go (d + 1) 170 612 [.ref 73, .int (nI i), .int (nI 0)] [] (wC H b (knF F (9 * i + 0))) Q := by
      rw [e_170_604]
      simp (disch := first | exact c1_i _ | exact c1_r _ | exact c1_n | exact c1_m | omega | assumption | (apply ac_l; omega) | (apply ac_r; omega) | decide | exact Or.inl rfl) only [e_170_605, e_170_607, e_170_610, e_170_611, Option.toList_some, Option.toList_none, List.cons_append, List.nil_append, catS_cons, catS_nil, cat_int, cat_long, cat_ref, cat_null, c1_i, c1_r, c1_n, c1_m, true_and, and_true, and_self, putR_1, putR_u, eq_self, Nat.reduceLT, Nat.reduceLeDiff, Nat.reduceAdd, Nat.reduceEqDiff, vk_i, vk_l, vk_r, vk_n, vk_0, vk_1, if_true, if_false, not_true_eq_false, not_false_eq_true, false_and, and_false, ne_eq, true_or, or_true, ite_not, reduceCtorEq, ni_ixL, ni_clL, ni_add, ni_mul, ni_lt, ni_le, ni_eq, ni_clamp, ni_ix, ni_lt0, ni_0le, ni_ltL, ni_Llt, ni_leL, ni_Lle, ni_eqL, ni_addL, ni_Ladd, ni_mulL, ni_Lmul, ni_subL, ni_sub, ni_Lsub, le_t, le_f, lt_t, lt_f, eq_f, il_lt, il_l0, il_g0, il_l1, il_g1, il_l2, il_g2, il_l3, il_g3, il_l4, il_g4, il_l5, il_g5, il_l7, il_g7, il_l8, il_g8, il_l9, il_g9, il_l10, il_g10, il_l15, il_g15, il_l20, il_g20, il_l23, il_g23, il_l24, il_g24, il_l60, il_g60, il_l100, il_g100, il_l999, il_g999, il_l1000, il_g1000, g]
      rfl
    rw [st, p1]
    have st2 : Go (d + 1) 170 636 [.ref 73, .int (nI i), .int (nI 9)] [] (wC H b (knF F (9 * i + 9))) Q = Go (d + 1) 170 604 [.ref 73, .int (nI (i + 1)), .int (nI 9)] [] (wC H b (knF F (9 * (i + 1)))) Q := by
      simp (disch := first | exact c1_i _ | exact c1_r _ | exact c1_n | exact c1_m | omega | assumption | (apply ac_l; omega) | (apply ac_r; omega) | decide | exact Or.inl rfl) only [e_170_636, e_170_639, Option.toList_some, Option.toList_none, List.cons_append, List.nil_append, catS_cons, catS_nil, cat_int, cat_long, cat_ref, cat_null, c1_i, c1_r, c1_n, c1_m, true_and, and_true, and_self, putR_1, putR_u, eq_self, Nat.reduceLT, Nat.reduceLeDiff, Nat.reduceAdd, Nat.reduceEqDiff, vk_i, vk_l, vk_r, vk_n, vk_0, vk_1, if_true, if_false, not_true_eq_false, not_false_eq_true, false_and, and_false, ne_eq, true_or, or_true, ite_not, reduceCtorEq, ni_ixL, ni_clL, ni_add, ni_mul, ni_lt, ni_le, ni_eq, ni_clamp, ni_ix, ni_lt0, ni_0le, ni_ltL, ni_Llt, ni_leL, ni_Lle, ni_eqL, ni_addL, ni_Ladd, ni_mulL, ni_Lmul, ni_subL, ni_sub, ni_Lsub, le_t, le_f, lt_t, lt_f, eq_f, il_lt, il_l0, il_g0, il_l1, il_g1, il_l2, il_g2, il_l3, il_g3, il_l4, il_g4, il_l5, il_g5, il_l7, il_g7, il_l8, il_g8, il_l9, il_g9, il_l10, il_g10, il_l15, il_g15, il_l20, il_g20, il_l23, il_g23, il_l24, il_g24, il_l60, il_g60, il_l100, il_g100, il_l999, il_g999, il_l1000, il_g1000, e3]
      rfl
    rw [st2]
    exact ih _
end
