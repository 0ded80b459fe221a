section
variable {d : Nat} {H : pheap} {Q : Option Value → pheap → Prop}
/-- the reference's constructor -/
theorem x_170 (hk : okH H) (h74 : H.1 = 74) : Go (d + 1) 170 0 [.ref 73, mk0, mk0] [] H Q = Q none (wC (ctL.foldl stp H) 94 (knF (fun _ => dflA 23) 72)) := by
  have g1 := fo_1 ctL H
  have g2 := fo_f ctL H hk
  have g3 := fo_at ctL H (ctL.take 22) (ctL.drop 23) (35, 23, 72, 0) hk rfl (by decide)
  have n1 : nA ctL = 72 := by decide
  have n2 : nA (ctL.take 22) = 20 := by decide
  rw [n1, h74] at g1
  rw [n2, h74] at g3
  rw [h74] at g2
  have g4 : FF ctL 74 (H.2.2 73).2.2 35 = .ref 94 := rfl
  generalize FF ctL 74 (H.2.2 73).2.2 = Fv at g2 g4
  have hk1 := hk.1
  have hk2 := hk.2
  have st : Go (d + 1) 170 0 [.ref 73, mk0, mk0] [] H Q = Go (d + 1) 170 4 [.ref 73, mk0, mk0] [] H Q := by
    simp (disch := first | exact c1_i _ | exact c1_r _ | exact c1_n | exact c1_m | omega | assumption | (apply ac_l; omega) | (apply ac_r; omega) | decide | exact Or.inl rfl) only [e_170_0, e_170_0n, e_170_1, Option.toList_some, Option.toList_none, List.cons_append, List.nil_append, catS_cons, catS_nil, cat_int, cat_long, cat_ref, cat_null, c1_i, c1_r, c1_n, c1_m, true_and, and_true, and_self, putR_1, putR_u, eq_self, Nat.reduceLT, Nat.reduceLeDiff, Nat.reduceAdd, Nat.reduceEqDiff, vk_i, vk_l, vk_r, vk_n, vk_0, vk_1, if_true, if_false, not_true_eq_false, not_false_eq_true, false_and, and_false, ne_eq, true_or, or_true, ite_not, reduceCtorEq, ni_ixL, ni_clL, ni_add, ni_mul, ni_lt, ni_le, ni_eq, ni_clamp, ni_ix, ni_lt0, ni_0le, ni_ltL, ni_Llt, ni_leL, ni_Lle, ni_eqL, ni_addL, ni_Ladd, ni_mulL, ni_Lmul, ni_subL, ni_sub, ni_Lsub, le_t, le_f, lt_t, lt_f, eq_f, il_lt, il_l0, il_g0, il_l1, il_g1, il_l2, il_g2, il_l3, il_g3, il_l4, il_g4, il_l5, il_g5, il_l7, il_g7, il_l8, il_g8, il_l9, il_g9, il_l10, il_g10, il_l15, il_g15, il_l20, il_g20, il_l23, il_g23, il_l24, il_g24, il_l60, il_g60, il_l100, il_g100, il_l999, il_g999, il_l1000, il_g1000, hk2]
  rw [st, x_ct hk]
  generalize ctL.foldl stp H = G at g1 g2 g3 ⊢
  have g2a : (G.2.2 73).1 = 13 := by rw [g2]; exact hk2
  have g2b : (G.2.2 73).2.2 35 = .ref 94 := by rw [g2]; exact g4
  have st2 : Go (d + 1) 170 602 [.ref 73, mk0, mk0] [] G Q = Go (d + 1) 170 604 [.ref 73, .int (nI 0), mk0] [] G Q := by
    simp (disch := first | exact c1_i _ | exact c1_r _ | exact c1_n | exact c1_m | omega | assumption | (apply ac_l; omega) | (apply ac_r; omega) | decide | exact Or.inl rfl) only [e_170_602, e_170_603, Option.toList_some, Option.toList_none, List.cons_append, List.nil_append, catS_cons, catS_nil, cat_int, cat_long, cat_ref, cat_null, c1_i, c1_r, c1_n, c1_m, true_and, and_true, and_self, putR_1, putR_u, eq_self, Nat.reduceLT, Nat.reduceLeDiff, Nat.reduceAdd, Nat.reduceEqDiff, vk_i, vk_l, vk_r, vk_n, vk_0, vk_1, if_true, if_false, not_true_eq_false, not_false_eq_true, false_and, and_false, ne_eq, true_or, or_true, ite_not, reduceCtorEq, ni_ixL, ni_clL, ni_add, ni_mul, ni_lt, ni_le, ni_eq, ni_clamp, ni_ix, ni_lt0, ni_0le, ni_ltL, ni_Llt, ni_leL, ni_Lle, ni_eqL, ni_addL, ni_Ladd, ni_mulL, ni_Lmul, ni_subL, ni_sub, ni_Lsub, le_t, le_f, lt_t, lt_f, eq_f, il_lt, il_l0, il_g0, il_l1, il_g1, il_l2, il_g2, il_l3, il_g3, il_l4, il_g4, il_l5, il_g5, il_l7, il_g7, il_l8, il_g8, il_l9, il_g9, il_l10, il_g10, il_l15, il_g15, il_l20, il_g20, il_l23, il_g23, il_l24, il_g24, il_l60, il_g60, il_l100, il_g100, il_l999, il_g999, il_l1000, il_g1000]
    rfl
  have e0 : knF (fun _ => dflA 23) (9 * 0) = (G.2.2 94).2.2 := by
    rw [g3]
    exact funext fun k => if_neg (Nat.not_lt_zero k)
  have p1 := kn_out (d := d) (Q := Q) (H := G) (b := 94) (F := fun _ => dflA 23) (by rw [g1]; omega) (by rw [g1]; omega) g2a g2b (by rw [g3]) (by rw [g3]) (by omega) (by omega) 8 0 mk0 rfl
  rw [e0, wC_i] at p1
  rw [st2, p1]
end
