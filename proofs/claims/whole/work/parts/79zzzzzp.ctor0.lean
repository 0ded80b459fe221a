/-! the class is made -/
section
variable {d a b f t n k i j m : Nat} {H h : pheap} {Q : Option Value → pheap → Prop} {F : Nat → Value}
abbrev cst : Type := Nat × Nat × Nat × Nat × Nat × Int32
def ap (h : pheap) (e : cst) : pheap :=
  if e.1 = 0 then hset h e.2.1 e.2.2.1 (.int e.2.2.2.2.2)
  else if e.1 = 1 then al1 h e.2.1 e.2.2.1 e.2.2.2.1 e.2.2.2.2.1
  else if e.1 = 2 then hnew h e.2.2.2.1 e.2.2.2.2.1 (fun k => dflF (fkd (1000 * e.2.2.2.1 + k)))
  else if e.1 = 3 then hset h e.2.1 e.2.2.1 (.ref e.2.2.2.2.1)
  else if e.1 = 4 then hset (hmul h e.2.2.2.1 e.2.2.2.2.1) e.2.1 e.2.2.1 (.ref h.1)
  else wC h e.2.1 (fun k => if k < e.2.2.2.2.1 then .int (nI k) else .int 0)
def inc (e : cst) : Nat := if e.1 = 0 then 0 else if e.1 = 1 then 1 else if e.1 = 2 then 1 else if e.1 = 3 then 0 else if e.1 = 4 then 1 + e.2.2.2.1 else 0
def usd (e : cst) : Nat := if e.1 = 0 then 0 else if e.1 = 1 then e.2.2.2.2.1 else if e.1 = 2 then e.2.2.2.2.1 else if e.1 = 3 then 0 else if e.1 = 4 then e.2.2.2.1 + e.2.2.2.1 * e.2.2.2.2.1 else 0
def cN (e : cst) (n a : Nat) (c : pcell) : pcell := if a = n then (e.2.2.2.1, e.2.2.2.2.1, fun _ => dflA e.2.2.2.1) else c
def cM (e : cst) (n a : Nat) (c : pcell) : pcell := if a = n then (27, e.2.2.2.1, fun j => .ref (n + 1 + j)) else if n < a ∧ a ≤ n + e.2.2.2.1 then (22, e.2.2.2.2.1, fun _ => .int 0) else c
def cf1 (e : cst) (n a : Nat) (c : pcell) : pcell :=
  if e.1 = 0 then (if a = e.2.1 then (c.1, c.2.1, updV c.2.2 e.2.2.1 (.int e.2.2.2.2.2)) else c)
  else if e.1 = 1 then (if a = e.2.1 then ((cN e n a c).1, (cN e n a c).2.1, updV (cN e n a c).2.2 e.2.2.1 (.ref n)) else cN e n a c)
  else if e.1 = 2 then (if a = n then (e.2.2.2.1, e.2.2.2.2.1, fun k => dflF (fkd (1000 * e.2.2.2.1 + k))) else c)
  else if e.1 = 3 then (if a = e.2.1 then (c.1, c.2.1, updV c.2.2 e.2.2.1 (.ref e.2.2.2.2.1)) else c)
  else if e.1 = 4 then (if a = e.2.1 then ((cM e n a c).1, (cM e n a c).2.1, updV (cM e n a c).2.2 e.2.2.1 (.ref n)) else cM e n a c)
  else (if a = e.2.1 then (c.1, c.2.1, fun k => if k < e.2.2.2.2.1 then .int (nI k) else .int 0) else c)
theorem ap_1 {e : cst} : (ap h e).1 = h.1 + inc e := by
  unfold ap inc
  by_cases z0 : e.1 = 0
  · rw [if_pos z0, if_pos z0]; rfl
  rw [if_neg z0, if_neg z0]
  by_cases z1 : e.1 = 1
  · rw [if_pos z1, if_pos z1]; rfl
  rw [if_neg z1, if_neg z1]
  by_cases z2 : e.1 = 2
  · rw [if_pos z2, if_pos z2]; rfl
  rw [if_neg z2, if_neg z2]
  by_cases z3 : e.1 = 3
  · rw [if_pos z3, if_pos z3]; rfl
  rw [if_neg z3, if_neg z3]
  by_cases z4 : e.1 = 4
  · rw [if_pos z4, if_pos z4]
    show h.1 + 1 + e.2.2.2.1 = _
    omega
  rw [if_neg z4, if_neg z4]
  rfl
theorem ap_u {e : cst} : (ap h e).2.1 = h.2.1 + usd e := by
  unfold ap usd
  by_cases z0 : e.1 = 0
  · rw [if_pos z0, if_pos z0]; rfl
  rw [if_neg z0, if_neg z0]
  by_cases z1 : e.1 = 1
  · rw [if_pos z1, if_pos z1]; rfl
  rw [if_neg z1, if_neg z1]
  by_cases z2 : e.1 = 2
  · rw [if_pos z2, if_pos z2]; rfl
  rw [if_neg z2, if_neg z2]
  by_cases z3 : e.1 = 3
  · rw [if_pos z3, if_pos z3]; rfl
  rw [if_neg z3, if_neg z3]
  by_cases z4 : e.1 = 4
  · rw [if_pos z4, if_pos z4]; rfl
  rw [if_neg z4, if_neg z4]
  rfl
theorem hs_c {v : Value} : (hset h b f v).2.2 a = if a = b then ((h.2.2 a).1, (h.2.2 a).2.1, updV (h.2.2 a).2.2 f v) else h.2.2 a := by
  by_cases z : a = b
  · subst z; rw [if_pos rfl, hs_s]
  · rw [if_neg z, hs_o _ _ z]
theorem ap_c {e : cst} : (ap h e).2.2 a = cf1 e h.1 a (h.2.2 a) := by
  unfold ap cf1
  by_cases z0 : e.1 = 0
  · rw [if_pos z0, if_pos z0]; exact hs_c
  rw [if_neg z0, if_neg z0]
  by_cases z1 : e.1 = 1
  · rw [if_pos z1, if_pos z1]; exact hs_c
  rw [if_neg z1, if_neg z1]
  by_cases z2 : e.1 = 2
  · rw [if_pos z2, if_pos z2]; rfl
  rw [if_neg z2, if_neg z2]
  by_cases z3 : e.1 = 3
  · rw [if_pos z3, if_pos z3]; exact hs_c
  rw [if_neg z3, if_neg z3]
  by_cases z4 : e.1 = 4
  · rw [if_pos z4, if_pos z4]; exact hs_c
  rw [if_neg z4, if_neg z4]
  by_cases z : a = e.2.1
  · subst z; rw [if_pos rfl]; exact wC_s
  · rw [if_neg z]; exact wC_o z
def okO (b t : Nat) (H : pheap) : Prop := 5 ≤ b ∧ b < H.1 ∧ (H.2.2 b).1 = t
theorem cf1_t {e : cst} {c : pcell} (ha : a < n) : (cf1 e n a c).1 = c.1 := by
  have e1 : cN e n a c = c := if_neg (by omega)
  have e2 : cM e n a c = c := (if_neg (by omega)).trans (if_neg (by omega))
  have e3 : ¬ a = n := by omega
  unfold cf1
  rw [e1, e2]
  (repeat' split) <;> first | rfl | exact absurd (by assumption) e3
theorem ok_ap {e : cst} (hk : okO b t H) : okO b t (ap H e) := by
  obtain ⟨h1, h2, h3⟩ := hk
  exact ⟨h1, by rw [ap_1]; omega, by rw [ap_c, cf1_t h2]; exact h3⟩
theorem ok_fd : ∀ (l : List cst) (H : pheap), okO b t H → okO b t (l.foldl ap H)
  | [], _, hk => hk
  | _ :: l, _, hk => ok_fd l _ (ok_ap hk)
def nN : List cst → Nat
  | [] => 0
  | e :: l => inc e + nN l
def nU : List cst → Nat
  | [] => 0
  | e :: l => usd e + nU l
theorem fd_1 : ∀ (l : List cst) (H : pheap), (l.foldl ap H).1 = H.1 + nN l
  | [], _ => rfl
  | e :: l, H => by
    rw [List.foldl_cons, fd_1 l, ap_1]
    show _ = H.1 + (inc e + nN l)
    omega
theorem fd_u : ∀ (l : List cst) (H : pheap), (l.foldl ap H).2.1 = H.2.1 + nU l
  | [], _ => rfl
  | e :: l, H => by
    rw [List.foldl_cons, fd_u l, ap_u]
    show _ = H.2.1 + (usd e + nU l)
    omega
def cf : List cst → Nat → Nat → pcell → pcell
  | [], _, _, c => c
  | e :: l, n, a, c => cf l (n + inc e) a (cf1 e n a c)
theorem fd_c : ∀ (l : List cst) (H : pheap), (l.foldl ap H).2.2 a = cf l H.1 a (H.2.2 a)
  | [], _ => rfl
  | e :: l, H => by
    rw [List.foldl_cons, fd_c l, ap_1, ap_c]
    rfl
theorem kb_0 (hk : okO b 1 H) : Go (d + 1) 1 4 [.ref b] [] H Q = Go (d + 1) 1 12 [.ref b] [] (ap H (1, b, 3, 21, 8, 0)) Q := by
  obtain ⟨h1, h2, h3⟩ := hk
  show _ = Go (d + 1) 1 12 [.ref b] [] (al1 H b 3 21 8) Q
  unfold al1
  have e := hn_o (h := H) 21 8 (fun _ => dflA 21) (b := b) (by omega)
  have l2 : ¬ (8 : Int32) < 0 := by decide
  simp (disch := first | exact c1_i _ | exact c1_r _ | exact c1_n | exact c1_m | omega | assumption | (apply ac_l; omega) | (apply ac_r; omega) | decide | exact Or.inl rfl) only [e_1_4, e_1_4n, e_1_5, e_1_7, e_1_9, Option.toList_some, Option.toList_none, List.cons_append, List.nil_append, catS_cons, catS_nil, cat_int, cat_long, cat_ref, cat_null, c1_i, c1_r, c1_n, c1_m, true_and, and_true, and_self, putR_1, putR_u, eq_self, Nat.reduceLT, Nat.reduceLeDiff, Nat.reduceAdd, Nat.reduceEqDiff, vk_i, vk_l, vk_r, vk_n, vk_0, vk_1, if_true, if_false, not_true_eq_false, not_false_eq_true, false_and, and_false, ne_eq, true_or, or_true, ite_not, reduceCtorEq, ni_ixL, ni_clL, ni_add, ni_mul, ni_lt, ni_le, ni_eq, ni_clamp, ni_ix, ni_lt0, ni_0le, ni_ltL, ni_Llt, ni_leL, ni_Lle, ni_eqL, ni_addL, ni_Ladd, ni_mulL, ni_Lmul, ni_subL, ni_sub, ni_Lsub, le_t, le_f, lt_t, lt_f, eq_f, il_lt, il_l0, il_g0, il_l1, il_g1, il_l2, il_g2, il_l3, il_g3, il_l4, il_g4, il_l5, il_g5, il_l7, il_g7, il_l8, il_g8, il_l9, il_g9, il_l10, il_g10, il_l15, il_g15, il_l20, il_g20, il_l23, il_g23, il_l24, il_g24, il_l60, il_g60, il_l100, il_g100, il_l999, il_g999, il_l1000, il_g1000, hn_1, e, h3, l2]
theorem kb_1 (hk : okO b 1 H) : Go (d + 1) 1 12 [.ref b] [] H Q = Go (d + 1) 1 20 [.ref b] [] (ap H (1, b, 4, 21, 6, 0)) Q := by
  obtain ⟨h1, h2, h3⟩ := hk
  show _ = Go (d + 1) 1 20 [.ref b] [] (al1 H b 4 21 6) Q
  unfold al1
  have e := hn_o (h := H) 21 6 (fun _ => dflA 21) (b := b) (by omega)
  have l2 : ¬ (6 : Int32) < 0 := by decide
  simp (disch := first | exact c1_i _ | exact c1_r _ | exact c1_n | exact c1_m | omega | assumption | (apply ac_l; omega) | (apply ac_r; omega) | decide | exact Or.inl rfl) only [e_1_12, e_1_12n, e_1_13, e_1_15, e_1_17, Option.toList_some, Option.toList_none, List.cons_append, List.nil_append, catS_cons, catS_nil, cat_int, cat_long, cat_ref, cat_null, c1_i, c1_r, c1_n, c1_m, true_and, and_true, and_self, putR_1, putR_u, eq_self, Nat.reduceLT, Nat.reduceLeDiff, Nat.reduceAdd, Nat.reduceEqDiff, vk_i, vk_l, vk_r, vk_n, vk_0, vk_1, if_true, if_false, not_true_eq_false, not_false_eq_true, false_and, and_false, ne_eq, true_or, or_true, ite_not, reduceCtorEq, ni_ixL, ni_clL, ni_add, ni_mul, ni_lt, ni_le, ni_eq, ni_clamp, ni_ix, ni_lt0, ni_0le, ni_ltL, ni_Llt, ni_leL, ni_Lle, ni_eqL, ni_addL, ni_Ladd, ni_mulL, ni_Lmul, ni_subL, ni_sub, ni_Lsub, le_t, le_f, lt_t, lt_f, eq_f, il_lt, il_l0, il_g0, il_l1, il_g1, il_l2, il_g2, il_l3, il_g3, il_l4, il_g4, il_l5, il_g5, il_l7, il_g7, il_l8, il_g8, il_l9, il_g9, il_l10, il_g10, il_l15, il_g15, il_l20, il_g20, il_l23, il_g23, il_l24, il_g24, il_l60, il_g60, il_l100, il_g100, il_l999, il_g999, il_l1000, il_g1000, hn_1, e, h3, l2]
theorem kb_2 (hk : okO b 1 H) : Go (d + 1) 1 20 [.ref b] [] H Q = Go (d + 1) 1 28 [.ref b] [] (ap H (1, b, 5, 21, 8, 0)) Q := by
  obtain ⟨h1, h2, h3⟩ := hk
  show _ = Go (d + 1) 1 28 [.ref b] [] (al1 H b 5 21 8) Q
  unfold al1
  have e := hn_o (h := H) 21 8 (fun _ => dflA 21) (b := b) (by omega)
  have l2 : ¬ (8 : Int32) < 0 := by decide
  simp (disch := first | exact c1_i _ | exact c1_r _ | exact c1_n | exact c1_m | omega | assumption | (apply ac_l; omega) | (apply ac_r; omega) | decide | exact Or.inl rfl) only [e_1_20, e_1_20n, e_1_21, e_1_23, e_1_25, Option.toList_some, Option.toList_none, List.cons_append, List.nil_append, catS_cons, catS_nil, cat_int, cat_long, cat_ref, cat_null, c1_i, c1_r, c1_n, c1_m, true_and, and_true, and_self, putR_1, putR_u, eq_self, Nat.reduceLT, Nat.reduceLeDiff, Nat.reduceAdd, Nat.reduceEqDiff, vk_i, vk_l, vk_r, vk_n, vk_0, vk_1, if_true, if_false, not_true_eq_false, not_false_eq_true, false_and, and_false, ne_eq, true_or, or_true, ite_not, reduceCtorEq, ni_ixL, ni_clL, ni_add, ni_mul, ni_lt, ni_le, ni_eq, ni_clamp, ni_ix, ni_lt0, ni_0le, ni_ltL, ni_Llt, ni_leL, ni_Lle, ni_eqL, ni_addL, ni_Ladd, ni_mulL, ni_Lmul, ni_subL, ni_sub, ni_Lsub, le_t, le_f, lt_t, lt_f, eq_f, il_lt, il_l0, il_g0, il_l1, il_g1, il_l2, il_g2, il_l3, il_g3, il_l4, il_g4, il_l5, il_g5, il_l7, il_g7, il_l8, il_g8, il_l9, il_g9, il_l10, il_g10, il_l15, il_g15, il_l20, il_g20, il_l23, il_g23, il_l24, il_g24, il_l60, il_g60, il_l100, il_g100, il_l999, il_g999, il_l1000, il_g1000, hn_1, e, h3, l2]
theorem kb_3 (hk : okO b 1 H) : Go (d + 1) 1 28 [.ref b] [] H Q = Go (d + 1) 1 36 [.ref b] [] (ap H (1, b, 6, 20, 9, 0)) Q := by
  obtain ⟨h1, h2, h3⟩ := hk
  show _ = Go (d + 1) 1 36 [.ref b] [] (al1 H b 6 20 9) Q
  unfold al1
  have e := hn_o (h := H) 20 9 (fun _ => dflA 20) (b := b) (by omega)
  have l2 : ¬ (9 : Int32) < 0 := by decide
  simp (disch := first | exact c1_i _ | exact c1_r _ | exact c1_n | exact c1_m | omega | assumption | (apply ac_l; omega) | (apply ac_r; omega) | decide | exact Or.inl rfl) only [e_1_28, e_1_28n, e_1_29, e_1_31, e_1_33, Option.toList_some, Option.toList_none, List.cons_append, List.nil_append, catS_cons, catS_nil, cat_int, cat_long, cat_ref, cat_null, c1_i, c1_r, c1_n, c1_m, true_and, and_true, and_self, putR_1, putR_u, eq_self, Nat.reduceLT, Nat.reduceLeDiff, Nat.reduceAdd, Nat.reduceEqDiff, vk_i, vk_l, vk_r, vk_n, vk_0, vk_1, if_true, if_false, not_true_eq_false, not_false_eq_true, false_and, and_false, ne_eq, true_or, or_true, ite_not, reduceCtorEq, ni_ixL, ni_clL, ni_add, ni_mul, ni_lt, ni_le, ni_eq, ni_clamp, ni_ix, ni_lt0, ni_0le, ni_ltL, ni_Llt, ni_leL, ni_Lle, ni_eqL, ni_addL, ni_Ladd, ni_mulL, ni_Lmul, ni_subL, ni_sub, ni_Lsub, le_t, le_f, lt_t, lt_f, eq_f, il_lt, il_l0, il_g0, il_l1, il_g1, il_l2, il_g2, il_l3, il_g3, il_l4, il_g4, il_l5, il_g5, il_l7, il_g7, il_l8, il_g8, il_l9, il_g9, il_l10, il_g10, il_l15, il_g15, il_l20, il_g20, il_l23, il_g23, il_l24, il_g24, il_l60, il_g60, il_l100, il_g100, il_l999, il_g999, il_l1000, il_g1000, hn_1, e, h3, l2]
theorem kb_4 (hk : okO b 1 H) : Go (d + 1) 1 36 [.ref b] [] H Q = Go (d + 1) 1 44 [.ref b] [] (ap H (1, b, 7, 20, 6, 0)) Q := by
  obtain ⟨h1, h2, h3⟩ := hk
  show _ = Go (d + 1) 1 44 [.ref b] [] (al1 H b 7 20 6) Q
  unfold al1
  have e := hn_o (h := H) 20 6 (fun _ => dflA 20) (b := b) (by omega)
  have l2 : ¬ (6 : Int32) < 0 := by decide
  simp (disch := first | exact c1_i _ | exact c1_r _ | exact c1_n | exact c1_m | omega | assumption | (apply ac_l; omega) | (apply ac_r; omega) | decide | exact Or.inl rfl) only [e_1_36, e_1_36n, e_1_37, e_1_39, e_1_41, Option.toList_some, Option.toList_none, List.cons_append, List.nil_append, catS_cons, catS_nil, cat_int, cat_long, cat_ref, cat_null, c1_i, c1_r, c1_n, c1_m, true_and, and_true, and_self, putR_1, putR_u, eq_self, Nat.reduceLT, Nat.reduceLeDiff, Nat.reduceAdd, Nat.reduceEqDiff, vk_i, vk_l, vk_r, vk_n, vk_0, vk_1, if_true, if_false, not_true_eq_false, not_false_eq_true, false_and, and_false, ne_eq, true_or, or_true, ite_not, reduceCtorEq, ni_ixL, ni_clL, ni_add, ni_mul, ni_lt, ni_le, ni_eq, ni_clamp, ni_ix, ni_lt0, ni_0le, ni_ltL, ni_Llt, ni_leL, ni_Lle, ni_eqL, ni_addL, ni_Ladd, ni_mulL, ni_Lmul, ni_subL, ni_sub, ni_Lsub, le_t, le_f, lt_t, lt_f, eq_f, il_lt, il_l0, il_g0, il_l1, il_g1, il_l2, il_g2, il_l3, il_g3, il_l4, il_g4, il_l5, il_g5, il_l7, il_g7, il_l8, il_g8, il_l9, il_g9, il_l10, il_g10, il_l15, il_g15, il_l20, il_g20, il_l23, il_g23, il_l24, il_g24, il_l60, il_g60, il_l100, il_g100, il_l999, il_g999, il_l1000, il_g1000, hn_1, e, h3, l2]
theorem kb_5 (hk : okO b 1 H) : Go (d + 1) 1 44 [.ref b] [] H Q = Go (d + 1) 1 52 [.ref b] [] (ap H (1, b, 8, 20, 36, 0)) Q := by
  obtain ⟨h1, h2, h3⟩ := hk
  show _ = Go (d + 1) 1 52 [.ref b] [] (al1 H b 8 20 36) Q
  unfold al1
  have e := hn_o (h := H) 20 36 (fun _ => dflA 20) (b := b) (by omega)
  have l2 : ¬ (36 : Int32) < 0 := by decide
  simp (disch := first | exact c1_i _ | exact c1_r _ | exact c1_n | exact c1_m | omega | assumption | (apply ac_l; omega) | (apply ac_r; omega) | decide | exact Or.inl rfl) only [e_1_44, e_1_44n, e_1_45, e_1_47, e_1_49, Option.toList_some, Option.toList_none, List.cons_append, List.nil_append, catS_cons, catS_nil, cat_int, cat_long, cat_ref, cat_null, c1_i, c1_r, c1_n, c1_m, true_and, and_true, and_self, putR_1, putR_u, eq_self, Nat.reduceLT, Nat.reduceLeDiff, Nat.reduceAdd, Nat.reduceEqDiff, vk_i, vk_l, vk_r, vk_n, vk_0, vk_1, if_true, if_false, not_true_eq_false, not_false_eq_true, false_and, and_false, ne_eq, true_or, or_true, ite_not, reduceCtorEq, ni_ixL, ni_clL, ni_add, ni_mul, ni_lt, ni_le, ni_eq, ni_clamp, ni_ix, ni_lt0, ni_0le, ni_ltL, ni_Llt, ni_leL, ni_Lle, ni_eqL, ni_addL, ni_Ladd, ni_mulL, ni_Lmul, ni_subL, ni_sub, ni_Lsub, le_t, le_f, lt_t, lt_f, eq_f, il_lt, il_l0, il_g0, il_l1, il_g1, il_l2, il_g2, il_l3, il_g3, il_l4, il_g4, il_l5, il_g5, il_l7, il_g7, il_l8, il_g8, il_l9, il_g9, il_l10, il_g10, il_l15, il_g15, il_l20, il_g20, il_l23, il_g23, il_l24, il_g24, il_l60, il_g60, il_l100, il_g100, il_l999, il_g999, il_l1000, il_g1000, hn_1, e, h3, l2]
theorem kb_6 (hk : okO b 1 H) : Go (d + 1) 1 52 [.ref b] [] H Q = Go (d + 1) 1 60 [.ref b] [] (ap H (1, b, 9, 20, 8, 0)) Q := by
  obtain ⟨h1, h2, h3⟩ := hk
  show _ = Go (d + 1) 1 60 [.ref b] [] (al1 H b 9 20 8) Q
  unfold al1
  have e := hn_o (h := H) 20 8 (fun _ => dflA 20) (b := b) (by omega)
  have l2 : ¬ (8 : Int32) < 0 := by decide
  simp (disch := first | exact c1_i _ | exact c1_r _ | exact c1_n | exact c1_m | omega | assumption | (apply ac_l; omega) | (apply ac_r; omega) | decide | exact Or.inl rfl) only [e_1_52, e_1_52n, e_1_53, e_1_55, e_1_57, Option.toList_some, Option.toList_none, List.cons_append, List.nil_append, catS_cons, catS_nil, cat_int, cat_long, cat_ref, cat_null, c1_i, c1_r, c1_n, c1_m, true_and, and_true, and_self, putR_1, putR_u, eq_self, Nat.reduceLT, Nat.reduceLeDiff, Nat.reduceAdd, Nat.reduceEqDiff, vk_i, vk_l, vk_r, vk_n, vk_0, vk_1, if_true, if_false, not_true_eq_false, not_false_eq_true, false_and, and_false, ne_eq, true_or, or_true, ite_not, reduceCtorEq, ni_ixL, ni_clL, ni_add, ni_mul, ni_lt, ni_le, ni_eq, ni_clamp, ni_ix, ni_lt0, ni_0le, ni_ltL, ni_Llt, ni_leL, ni_Lle, ni_eqL, ni_addL, ni_Ladd, ni_mulL, ni_Lmul, ni_subL, ni_sub, ni_Lsub, le_t, le_f, lt_t, lt_f, eq_f, il_lt, il_l0, il_g0, il_l1, il_g1, il_l2, il_g2, il_l3, il_g3, il_l4, il_g4, il_l5, il_g5, il_l7, il_g7, il_l8, il_g8, il_l9, il_g9, il_l10, il_g10, il_l15, il_g15, il_l20, il_g20, il_l23, il_g23, il_l24, il_g24, il_l60, il_g60, il_l100, il_g100, il_l999, il_g999, il_l1000, il_g1000, hn_1, e, h3, l2]
theorem kb_7 (hk : okO b 1 H) : Go (d + 1) 1 60 [.ref b] [] H Q = Go (d + 1) 1 68 [.ref b] [] (ap H (1, b, 10, 20, 64, 0)) Q := by
  obtain ⟨h1, h2, h3⟩ := hk
  show _ = Go (d + 1) 1 68 [.ref b] [] (al1 H b 10 20 64) Q
  unfold al1
  have e := hn_o (h := H) 20 64 (fun _ => dflA 20) (b := b) (by omega)
  have l2 : ¬ (64 : Int32) < 0 := by decide
  simp (disch := first | exact c1_i _ | exact c1_r _ | exact c1_n | exact c1_m | omega | assumption | (apply ac_l; omega) | (apply ac_r; omega) | decide | exact Or.inl rfl) only [e_1_60, e_1_60n, e_1_61, e_1_63, e_1_65, Option.toList_some, Option.toList_none, List.cons_append, List.nil_append, catS_cons, catS_nil, cat_int, cat_long, cat_ref, cat_null, c1_i, c1_r, c1_n, c1_m, true_and, and_true, and_self, putR_1, putR_u, eq_self, Nat.reduceLT, Nat.reduceLeDiff, Nat.reduceAdd, Nat.reduceEqDiff, vk_i, vk_l, vk_r, vk_n, vk_0, vk_1, if_true, if_false, not_true_eq_false, not_false_eq_true, false_and, and_false, ne_eq, true_or, or_true, ite_not, reduceCtorEq, ni_ixL, ni_clL, ni_add, ni_mul, ni_lt, ni_le, ni_eq, ni_clamp, ni_ix, ni_lt0, ni_0le, ni_ltL, ni_Llt, ni_leL, ni_Lle, ni_eqL, ni_addL, ni_Ladd, ni_mulL, ni_Lmul, ni_subL, ni_sub, ni_Lsub, le_t, le_f, lt_t, lt_f, eq_f, il_lt, il_l0, il_g0, il_l1, il_g1, il_l2, il_g2, il_l3, il_g3, il_l4, il_g4, il_l5, il_g5, il_l7, il_g7, il_l8, il_g8, il_l9, il_g9, il_l10, il_g10, il_l15, il_g15, il_l20, il_g20, il_l23, il_g23, il_l24, il_g24, il_l60, il_g60, il_l100, il_g100, il_l999, il_g999, il_l1000, il_g1000, hn_1, e, h3, l2]
theorem kb_8 (hk : okO b 1 H) : Go (d + 1) 1 68 [.ref b] [] H Q = Go (d + 1) 1 76 [.ref b] [] (ap H (1, b, 11, 20, 64, 0)) Q := by
  obtain ⟨h1, h2, h3⟩ := hk
  show _ = Go (d + 1) 1 76 [.ref b] [] (al1 H b 11 20 64) Q
  unfold al1
  have e := hn_o (h := H) 20 64 (fun _ => dflA 20) (b := b) (by omega)
  have l2 : ¬ (64 : Int32) < 0 := by decide
  simp (disch := first | exact c1_i _ | exact c1_r _ | exact c1_n | exact c1_m | omega | assumption | (apply ac_l; omega) | (apply ac_r; omega) | decide | exact Or.inl rfl) only [e_1_68, e_1_68n, e_1_69, e_1_71, e_1_73, Option.toList_some, Option.toList_none, List.cons_append, List.nil_append, catS_cons, catS_nil, cat_int, cat_long, cat_ref, cat_null, c1_i, c1_r, c1_n, c1_m, true_and, and_true, and_self, putR_1, putR_u, eq_self, Nat.reduceLT, Nat.reduceLeDiff, Nat.reduceAdd, Nat.reduceEqDiff, vk_i, vk_l, vk_r, vk_n, vk_0, vk_1, if_true, if_false, not_true_eq_false, not_false_eq_true, false_and, and_false, ne_eq, true_or, or_true, ite_not, reduceCtorEq, ni_ixL, ni_clL, ni_add, ni_mul, ni_lt, ni_le, ni_eq, ni_clamp, ni_ix, ni_lt0, ni_0le, ni_ltL, ni_Llt, ni_leL, ni_Lle, ni_eqL, ni_addL, ni_Ladd, ni_mulL, ni_Lmul, ni_subL, ni_sub, ni_Lsub, le_t, le_f, lt_t, lt_f, eq_f, il_lt, il_l0, il_g0, il_l1, il_g1, il_l2, il_g2, il_l3, il_g3, il_l4, il_g4, il_l5, il_g5, il_l7, il_g7, il_l8, il_g8, il_l9, il_g9, il_l10, il_g10, il_l15, il_g15, il_l20, il_g20, il_l23, il_g23, il_l24, il_g24, il_l60, il_g60, il_l100, il_g100, il_l999, il_g999, il_l1000, il_g1000, hn_1, e, h3, l2]
theorem kb_9 (hk : okO b 1 H) : Go (d + 1) 1 76 [.ref b] [] H Q = Go (d + 1) 1 85 [.ref b] [] (ap H (1, b, 12, 20, 192, 0)) Q := by
  obtain ⟨h1, h2, h3⟩ := hk
  show _ = Go (d + 1) 1 85 [.ref b] [] (al1 H b 12 20 192) Q
  unfold al1
  have e := hn_o (h := H) 20 192 (fun _ => dflA 20) (b := b) (by omega)
  have l2 : ¬ (192 : Int32) < 0 := by decide
  simp (disch := first | exact c1_i _ | exact c1_r _ | exact c1_n | exact c1_m | omega | assumption | (apply ac_l; omega) | (apply ac_r; omega) | decide | exact Or.inl rfl) only [e_1_76, e_1_76n, e_1_77, e_1_80, e_1_82, Option.toList_some, Option.toList_none, List.cons_append, List.nil_append, catS_cons, catS_nil, cat_int, cat_long, cat_ref, cat_null, c1_i, c1_r, c1_n, c1_m, true_and, and_true, and_self, putR_1, putR_u, eq_self, Nat.reduceLT, Nat.reduceLeDiff, Nat.reduceAdd, Nat.reduceEqDiff, vk_i, vk_l, vk_r, vk_n, vk_0, vk_1, if_true, if_false, not_true_eq_false, not_false_eq_true, false_and, and_false, ne_eq, true_or, or_true, ite_not, reduceCtorEq, ni_ixL, ni_clL, ni_add, ni_mul, ni_lt, ni_le, ni_eq, ni_clamp, ni_ix, ni_lt0, ni_0le, ni_ltL, ni_Llt, ni_leL, ni_Lle, ni_eqL, ni_addL, ni_Ladd, ni_mulL, ni_Lmul, ni_subL, ni_sub, ni_Lsub, le_t, le_f, lt_t, lt_f, eq_f, il_lt, il_l0, il_g0, il_l1, il_g1, il_l2, il_g2, il_l3, il_g3, il_l4, il_g4, il_l5, il_g5, il_l7, il_g7, il_l8, il_g8, il_l9, il_g9, il_l10, il_g10, il_l15, il_g15, il_l20, il_g20, il_l23, il_g23, il_l24, il_g24, il_l60, il_g60, il_l100, il_g100, il_l999, il_g999, il_l1000, il_g1000, hn_1, e, h3, l2]
def bkS (b : Nat) : List cst := [(1, b, 3, 21, 8, 0), (1, b, 4, 21, 6, 0), (1, b, 5, 21, 8, 0), (1, b, 6, 20, 9, 0), (1, b, 7, 20, 6, 0), (1, b, 8, 20, 36, 0), (1, b, 9, 20, 8, 0), (1, b, 10, 20, 64, 0), (1, b, 11, 20, 64, 0), (1, b, 12, 20, 192, 0)]
theorem kb_all (hk : okO b 1 H) : Go (d + 1) 1 0 [.ref b] [] H Q = Q none ((bkS b).foldl ap H) := by
  have st : Go (d + 1) 1 0 [.ref b] [] H Q = Go (d + 1) 1 4 [.ref b] [] H Q := by
    simp (disch := first | exact c1_i _ | exact c1_r _ | exact c1_n | exact c1_m | omega | assumption | (apply ac_l; omega) | (apply ac_r; omega) | decide | exact Or.inl rfl) only [e_1_0, e_1_0n, e_1_1, Option.toList_some, Option.toList_none, List.cons_append, List.nil_append, catS_cons, catS_nil, cat_int, cat_long, cat_ref, cat_null, c1_i, c1_r, c1_n, c1_m, true_and, and_true, and_self, putR_1, putR_u, eq_self, Nat.reduceLT, Nat.reduceLeDiff, Nat.reduceAdd, Nat.reduceEqDiff, vk_i, vk_l, vk_r, vk_n, vk_0, vk_1, if_true, if_false, not_true_eq_false, not_false_eq_true, false_and, and_false, ne_eq, true_or, or_true, ite_not, reduceCtorEq, ni_ixL, ni_clL, ni_add, ni_mul, ni_lt, ni_le, ni_eq, ni_clamp, ni_ix, ni_lt0, ni_0le, ni_ltL, ni_Llt, ni_leL, ni_Lle, ni_eqL, ni_addL, ni_Ladd, ni_mulL, ni_Lmul, ni_subL, ni_sub, ni_Lsub, le_t, le_f, lt_t, lt_f, eq_f, il_lt, il_l0, il_g0, il_l1, il_g1, il_l2, il_g2, il_l3, il_g3, il_l4, il_g4, il_l5, il_g5, il_l7, il_g7, il_l8, il_g8, il_l9, il_g9, il_l10, il_g10, il_l15, il_g15, il_l20, il_g20, il_l23, il_g23, il_l24, il_g24, il_l60, il_g60, il_l100, il_g100, il_l999, il_g999, il_l1000, il_g1000]
  rw [st]
  have k1 := ok_ap (e := (1, b, 3, 21, 8, 0)) hk
  have k2 := ok_ap (e := (1, b, 4, 21, 6, 0)) k1
  have k3 := ok_ap (e := (1, b, 5, 21, 8, 0)) k2
  have k4 := ok_ap (e := (1, b, 6, 20, 9, 0)) k3
  have k5 := ok_ap (e := (1, b, 7, 20, 6, 0)) k4
  have k6 := ok_ap (e := (1, b, 8, 20, 36, 0)) k5
  have k7 := ok_ap (e := (1, b, 9, 20, 8, 0)) k6
  have k8 := ok_ap (e := (1, b, 10, 20, 64, 0)) k7
  have k9 := ok_ap (e := (1, b, 11, 20, 64, 0)) k8
  have k10 := ok_ap (e := (1, b, 12, 20, 192, 0)) k9
  rw [kb_0 hk, kb_1 k1, kb_2 k2, kb_3 k3, kb_4 k4, kb_5 k5, kb_6 k6, kb_7 k7, kb_8 k8, kb_9 k9]
  simp (disch := first | exact c1_i _ | exact c1_r _ | exact c1_n | exact c1_m | omega | assumption | (apply ac_l; omega) | (apply ac_r; omega) | decide | exact Or.inl rfl) only [e_1_85, Option.toList_some, Option.toList_none, List.cons_append, List.nil_append, catS_cons, catS_nil, cat_int, cat_long, cat_ref, cat_null, c1_i, c1_r, c1_n, c1_m, true_and, and_true, and_self, putR_1, putR_u, eq_self, Nat.reduceLT, Nat.reduceLeDiff, Nat.reduceAdd, Nat.reduceEqDiff, vk_i, vk_l, vk_r, vk_n, vk_0, vk_1, if_true, if_false, not_true_eq_false, not_false_eq_true, false_and, and_false, ne_eq, true_or, or_true, ite_not, reduceCtorEq]
  rfl
def alS (b : Nat) : List cst := [(0, b, 0, 0, 0, 0), (3, b, 1, 0, 1, 0)]
def wtS (b : Nat) : List cst := [(1, b, 3, 22, 240, 0), (1, b, 4, 20, 12, 0)]
theorem kl_all (hk : okO b 0 H) : Go (d + 3) 2 0 [.ref b] [] H Q = Q none ((alS b).foldl ap H) := by
  obtain ⟨h1, h2, h3⟩ := hk
  show _ = Q none (hset (hset H b 0 (.int 0)) b 1 (.ref 1))
  have e : ((hset H b 0 (.int 0)).2.2 b).1 = 0 := (hs_t _ _ _ _).trans h3
  simp (disch := first | exact c1_i _ | exact c1_r _ | exact c1_n | exact c1_m | omega | assumption | (apply ac_l; omega) | (apply ac_r; omega) | decide | exact Or.inl rfl) only [e_2_0, e_2_0n, e_2_1, e_2_4, e_2_4n, e_2_5, e_2_8, e_2_11, e_3_0, e_3_0n, e_3_1, e_3_4, e_3_4n, e_3_5, e_3_6, e_3_9, e_4_0, e_4_0n, e_4_1, e_4_4, Option.toList_some, Option.toList_none, List.cons_append, List.nil_append, catS_cons, catS_nil, cat_int, cat_long, cat_ref, cat_null, c1_i, c1_r, c1_n, c1_m, true_and, and_true, and_self, putR_1, putR_u, eq_self, Nat.reduceLT, Nat.reduceLeDiff, Nat.reduceAdd, Nat.reduceEqDiff, vk_i, vk_l, vk_r, vk_n, vk_0, vk_1, if_true, if_false, not_true_eq_false, not_false_eq_true, false_and, and_false, ne_eq, true_or, or_true, ite_not, reduceCtorEq, ni_ixL, ni_clL, ni_add, ni_mul, ni_lt, ni_le, ni_eq, ni_clamp, ni_ix, ni_lt0, ni_0le, ni_ltL, ni_Llt, ni_leL, ni_Lle, ni_eqL, ni_addL, ni_Ladd, ni_mulL, ni_Lmul, ni_subL, ni_sub, ni_Lsub, le_t, le_f, lt_t, lt_f, eq_f, il_lt, il_l0, il_g0, il_l1, il_g1, il_l2, il_g2, il_l3, il_g3, il_l4, il_g4, il_l5, il_g5, il_l7, il_g7, il_l8, il_g8, il_l9, il_g9, il_l10, il_g10, il_l15, il_g15, il_l20, il_g20, il_l23, il_g23, il_l24, il_g24, il_l60, il_g60, il_l100, il_g100, il_l999, il_g999, il_l1000, il_g1000, hs_1, e, h3]
theorem kw_0 (hk : okO b 10 H) : Go (d + 1) 5 4 [.ref b, mk0] [] H Q = Go (d + 1) 5 12 [.ref b, mk0] [] (ap H (1, b, 2, 22, 29, 0)) Q := by
  obtain ⟨h1, h2, h3⟩ := hk
  show _ = Go (d + 1) 5 12 [.ref b, mk0] [] (al1 H b 2 22 29) Q
  unfold al1
  have e := hn_o (h := H) 22 29 (fun _ => dflA 22) (b := b) (by omega)
  have l2 : ¬ (29 : Int32) < 0 := by decide
  simp (disch := first | exact c1_i _ | exact c1_r _ | exact c1_n | exact c1_m | omega | assumption | (apply ac_l; omega) | (apply ac_r; omega) | decide | exact Or.inl rfl) only [e_5_4, e_5_4n, e_5_5, e_5_7, e_5_9, Option.toList_some, Option.toList_none, List.cons_append, List.nil_append, catS_cons, catS_nil, cat_int, cat_long, cat_ref, cat_null, c1_i, c1_r, c1_n, c1_m, true_and, and_true, and_self, putR_1, putR_u, eq_self, Nat.reduceLT, Nat.reduceLeDiff, Nat.reduceAdd, Nat.reduceEqDiff, vk_i, vk_l, vk_r, vk_n, vk_0, vk_1, if_true, if_false, not_true_eq_false, not_false_eq_true, false_and, and_false, ne_eq, true_or, or_true, ite_not, reduceCtorEq, ni_ixL, ni_clL, ni_add, ni_mul, ni_lt, ni_le, ni_eq, ni_clamp, ni_ix, ni_lt0, ni_0le, ni_ltL, ni_Llt, ni_leL, ni_Lle, ni_eqL, ni_addL, ni_Ladd, ni_mulL, ni_Lmul, ni_subL, ni_sub, ni_Lsub, le_t, le_f, lt_t, lt_f, eq_f, il_lt, il_l0, il_g0, il_l1, il_g1, il_l2, il_g2, il_l3, il_g3, il_l4, il_g4, il_l5, il_g5, il_l7, il_g7, il_l8, il_g8, il_l9, il_g9, il_l10, il_g10, il_l15, il_g15, il_l20, il_g20, il_l23, il_g23, il_l24, il_g24, il_l60, il_g60, il_l100, il_g100, il_l999, il_g999, il_l1000, il_g1000, hn_1, e, h3, l2]
theorem kw_1 (hk : okO b 10 H) : Go (d + 1) 5 12 [.ref b, mk0] [] H Q = Go (d + 1) 5 24 [.ref b, mk0] [] (ap H (4, b, 4, 40, 29, 0)) Q := by
  obtain ⟨h1, h2, h3⟩ := hk
  show _ = Go (d + 1) 5 24 [.ref b, mk0] [] (hset (hmul H 40 29) b 4 (.ref H.1)) Q
  have e : (hmul H 40 29).2.2 b = H.2.2 b := (if_neg (by omega)).trans (if_neg (by omega))
  have e1 : (hmul H 40 29).1 = H.1 + 1 + 40 := rfl
  have l1 : (0 : Int32) < 40 := by decide
  have l2 : (0 : Int32) < 29 := by decide
  have t1 : (40 : Int32).toNatClampNeg = 40 := by decide
  have t2 : (29 : Int32).toNatClampNeg = 29 := by decide
  simp (disch := first | exact c1_i _ | exact c1_r _ | exact c1_n | exact c1_m | omega | assumption | (apply ac_l; omega) | (apply ac_r; omega) | decide | exact Or.inl rfl) only [e_5_12, e_5_12n, e_5_13, e_5_15, e_5_17, e_5_21, Option.toList_some, Option.toList_none, List.cons_append, List.nil_append, catS_cons, catS_nil, cat_int, cat_long, cat_ref, cat_null, c1_i, c1_r, c1_n, c1_m, true_and, and_true, and_self, putR_1, putR_u, eq_self, Nat.reduceLT, Nat.reduceLeDiff, Nat.reduceAdd, Nat.reduceEqDiff, vk_i, vk_l, vk_r, vk_n, vk_0, vk_1, if_true, if_false, not_true_eq_false, not_false_eq_true, false_and, and_false, ne_eq, true_or, or_true, ite_not, reduceCtorEq, ni_ixL, ni_clL, ni_add, ni_mul, ni_lt, ni_le, ni_eq, ni_clamp, ni_ix, ni_lt0, ni_0le, ni_ltL, ni_Llt, ni_leL, ni_Lle, ni_eqL, ni_addL, ni_Ladd, ni_mulL, ni_Lmul, ni_subL, ni_sub, ni_Lsub, le_t, le_f, lt_t, lt_f, eq_f, il_lt, il_l0, il_g0, il_l1, il_g1, il_l2, il_g2, il_l3, il_g3, il_l4, il_g4, il_l5, il_g5, il_l7, il_g7, il_l8, il_g8, il_l9, il_g9, il_l10, il_g10, il_l15, il_g15, il_l20, il_g20, il_l23, il_g23, il_l24, il_g24, il_l60, il_g60, il_l100, il_g100, il_l999, il_g999, il_l1000, il_g1000, e, e1, h3, l1, l2, t1, t2]
theorem kw_2 (hk : okO b 10 H) : Go (d + 1) 5 24 [.ref b, mk0] [] H Q = Go (d + 1) 5 32 [.ref b, mk0] [] (ap H (1, b, 5, 20, 40, 0)) Q := by
  obtain ⟨h1, h2, h3⟩ := hk
  show _ = Go (d + 1) 5 32 [.ref b, mk0] [] (al1 H b 5 20 40) Q
  unfold al1
  have e := hn_o (h := H) 20 40 (fun _ => dflA 20) (b := b) (by omega)
  have l2 : ¬ (40 : Int32) < 0 := by decide
  simp (disch := first | exact c1_i _ | exact c1_r _ | exact c1_n | exact c1_m | omega | assumption | (apply ac_l; omega) | (apply ac_r; omega) | decide | exact Or.inl rfl) only [e_5_24, e_5_24n, e_5_25, e_5_27, e_5_29, Option.toList_some, Option.toList_none, List.cons_append, List.nil_append, catS_cons, catS_nil, cat_int, cat_long, cat_ref, cat_null, c1_i, c1_r, c1_n, c1_m, true_and, and_true, and_self, putR_1, putR_u, eq_self, Nat.reduceLT, Nat.reduceLeDiff, Nat.reduceAdd, Nat.reduceEqDiff, vk_i, vk_l, vk_r, vk_n, vk_0, vk_1, if_true, if_false, not_true_eq_false, not_false_eq_true, false_and, and_false, ne_eq, true_or, or_true, ite_not, reduceCtorEq, ni_ixL, ni_clL, ni_add, ni_mul, ni_lt, ni_le, ni_eq, ni_clamp, ni_ix, ni_lt0, ni_0le, ni_ltL, ni_Llt, ni_leL, ni_Lle, ni_eqL, ni_addL, ni_Ladd, ni_mulL, ni_Lmul, ni_subL, ni_sub, ni_Lsub, le_t, le_f, lt_t, lt_f, eq_f, il_lt, il_l0, il_g0, il_l1, il_g1, il_l2, il_g2, il_l3, il_g3, il_l4, il_g4, il_l5, il_g5, il_l7, il_g7, il_l8, il_g8, il_l9, il_g9, il_l10, il_g10, il_l15, il_g15, il_l20, il_g20, il_l23, il_g23, il_l24, il_g24, il_l60, il_g60, il_l100, il_g100, il_l999, il_g999, il_l1000, il_g1000, hn_1, e, h3, l2]
theorem kw_3 (hk : okO b 10 H) : Go (d + 1) 5 32 [.ref b, mk0] [] H Q = Go (d + 1) 5 40 [.ref b, mk0] [] (ap H (1, b, 6, 20, 40, 0)) Q := by
  obtain ⟨h1, h2, h3⟩ := hk
  show _ = Go (d + 1) 5 40 [.ref b, mk0] [] (al1 H b 6 20 40) Q
  unfold al1
  have e := hn_o (h := H) 20 40 (fun _ => dflA 20) (b := b) (by omega)
  have l2 : ¬ (40 : Int32) < 0 := by decide
  simp (disch := first | exact c1_i _ | exact c1_r _ | exact c1_n | exact c1_m | omega | assumption | (apply ac_l; omega) | (apply ac_r; omega) | decide | exact Or.inl rfl) only [e_5_32, e_5_32n, e_5_33, e_5_35, e_5_37, Option.toList_some, Option.toList_none, List.cons_append, List.nil_append, catS_cons, catS_nil, cat_int, cat_long, cat_ref, cat_null, c1_i, c1_r, c1_n, c1_m, true_and, and_true, and_self, putR_1, putR_u, eq_self, Nat.reduceLT, Nat.reduceLeDiff, Nat.reduceAdd, Nat.reduceEqDiff, vk_i, vk_l, vk_r, vk_n, vk_0, vk_1, if_true, if_false, not_true_eq_false, not_false_eq_true, false_and, and_false, ne_eq, true_or, or_true, ite_not, reduceCtorEq, ni_ixL, ni_clL, ni_add, ni_mul, ni_lt, ni_le, ni_eq, ni_clamp, ni_ix, ni_lt0, ni_0le, ni_ltL, ni_Llt, ni_leL, ni_Lle, ni_eqL, ni_addL, ni_Ladd, ni_mulL, ni_Lmul, ni_subL, ni_sub, ni_Lsub, le_t, le_f, lt_t, lt_f, eq_f, il_lt, il_l0, il_g0, il_l1, il_g1, il_l2, il_g2, il_l3, il_g3, il_l4, il_g4, il_l5, il_g5, il_l7, il_g7, il_l8, il_g8, il_l9, il_g9, il_l10, il_g10, il_l15, il_g15, il_l20, il_g20, il_l23, il_g23, il_l24, il_g24, il_l60, il_g60, il_l100, il_g100, il_l999, il_g999, il_l1000, il_g1000, hn_1, e, h3, l2]
def odF (n : Nat) : Nat → Value := fun k => if k < n then .int (nI k) else .int 0
theorem od_u (m : Nat) : updV (odF m) m (.int (nI m)) = odF (m + 1) := funext fun k => by
  unfold updV odF
  by_cases h1 : k = m
  · subst h1; rw [if_pos rfl, if_pos (by omega)]
  · rw [if_neg h1]
    by_cases h2 : k < m
    · rw [if_pos h2, if_pos (by omega)]
    · rw [if_neg h2, if_neg (by omega)]
theorem kw_l (h1 : 70 ≤ H.1) (h3 : (H.2.2 25).1 = 10) (h4 : (H.2.2 25).2.2 6 = .ref 69) (h5 : (H.2.2 69).1 = 20) (h6 : (H.2.2 69).2.1 = 40) : ∀ m j, j + m = 40 → Go (d + 1) 5 42 [.ref 25, .int (nI j)] [] (wC H 69 (odF j)) Q = Q none (wC H 69 (odF 40))
  | 0, j, hj => by
    obtain rfl : j = 40 := by omega
    have g : (40 : Int32) ≤ nI 40 := by decide
    rw [e_5_42]
    simp (disch := first | exact c1_i _ | exact c1_r _ | exact c1_n | exact c1_m | omega | assumption | (apply ac_l; omega) | (apply ac_r; omega) | decide | exact Or.inl rfl) only [e_5_43, e_5_45, e_5_61, Option.toList_some, Option.toList_none, List.cons_append, List.nil_append, catS_cons, catS_nil, cat_int, cat_long, cat_ref, cat_null, c1_i, c1_r, c1_n, c1_m, true_and, and_true, and_self, putR_1, putR_u, eq_self, Nat.reduceLT, Nat.reduceLeDiff, Nat.reduceAdd, Nat.reduceEqDiff, vk_i, vk_l, vk_r, vk_n, vk_0, vk_1, if_true, if_false, not_true_eq_false, not_false_eq_true, false_and, and_false, ne_eq, true_or, or_true, ite_not, reduceCtorEq, ni_ixL, ni_clL, ni_add, ni_mul, ni_lt, ni_le, ni_eq, ni_clamp, ni_ix, ni_lt0, ni_0le, ni_ltL, ni_Llt, ni_leL, ni_Lle, ni_eqL, ni_addL, ni_Ladd, ni_mulL, ni_Lmul, ni_subL, ni_sub, ni_Lsub, le_t, le_f, lt_t, lt_f, eq_f, il_lt, il_l0, il_g0, il_l1, il_g1, il_l2, il_g2, il_l3, il_g3, il_l4, il_g4, il_l5, il_g5, il_l7, il_g7, il_l8, il_g8, il_l9, il_g9, il_l10, il_g10, il_l15, il_g15, il_l20, il_g20, il_l23, il_g23, il_l24, il_g24, il_l60, il_g60, il_l100, il_g100, il_l999, il_g999, il_l1000, il_g1000, g]
  | m + 1, j, hj => by
    have e0 := wC_o (h := H) (b := 69) (F := odF j) (a := 25) (by omega)
    have e1 := wC_s (h := H) (b := 69) (F := odF j)
    have l1 : 25 < (wC H 69 (odF j)).1 := by rw [wC_1]; omega
    have l2 : 69 < (wC H 69 (odF j)).1 := by rw [wC_1]; omega
    have e3 : nI j + 1 = nI (j + 1) := ni_add _ 1
    have e6 : j < 40 := by omega
    have g : ¬ (40 : Int32) ≤ nI j := by
      show ¬ nI 40 ≤ nI j
      rw [ni_le (by omega) (by omega)]
      omega
    have ih := kw_l h1 h3 h4 h5 h6 m (j + 1) (by omega)
    rw [← ih, e_5_42]
    simp (disch := first | exact c1_i _ | exact c1_r _ | exact c1_n | exact c1_m | omega | assumption | (apply ac_l; omega) | (apply ac_r; omega) | decide | exact Or.inl rfl) only [e_5_43, e_5_45, e_5_48, e_5_48n, e_5_49, e_5_52, e_5_53, e_5_54, e_5_55, e_5_58, Option.toList_some, Option.toList_none, List.cons_append, List.nil_append, catS_cons, catS_nil, cat_int, cat_long, cat_ref, cat_null, c1_i, c1_r, c1_n, c1_m, true_and, and_true, and_self, putR_1, putR_u, eq_self, Nat.reduceLT, Nat.reduceLeDiff, Nat.reduceAdd, Nat.reduceEqDiff, vk_i, vk_l, vk_r, vk_n, vk_0, vk_1, if_true, if_false, not_true_eq_false, not_false_eq_true, false_and, and_false, ne_eq, true_or, or_true, ite_not, reduceCtorEq, ni_ixL, ni_clL, ni_add, ni_mul, ni_lt, ni_le, ni_eq, ni_clamp, ni_ix, ni_lt0, ni_0le, ni_ltL, ni_Llt, ni_leL, ni_Lle, ni_eqL, ni_addL, ni_Ladd, ni_mulL, ni_Lmul, ni_subL, ni_sub, ni_Lsub, le_t, le_f, lt_t, lt_f, eq_f, il_lt, il_l0, il_g0, il_l1, il_g1, il_l2, il_g2, il_l3, il_g3, il_l4, il_g4, il_l5, il_g5, il_l7, il_g7, il_l8, il_g8, il_l9, il_g9, il_l10, il_g10, il_l15, il_g15, il_l20, il_g20, il_l23, il_g23, il_l24, il_g24, il_l60, il_g60, il_l100, il_g100, il_l999, il_g999, il_l1000, il_g1000, g, e0, e1, h3, h4, h5, h6, e3, wC_1, wC_h, od_u]
def wrS : List cst := [(1, 25, 2, 22, 29, 0), (4, 25, 4, 40, 29, 0), (1, 25, 5, 20, 40, 0), (1, 25, 6, 20, 40, 0)]
theorem kw_all (hk : okO 25 10 H) (h26 : H.1 = 26) : Go (d + 1) 5 0 [.ref 25, mk0] [] H Q = Q none ((wrS ++ [(5, 69, 0, 0, 40, 0)]).foldl ap H) := by
  have st : Go (d + 1) 5 0 [.ref 25, mk0] [] H Q = Go (d + 1) 5 4 [.ref 25, mk0] [] H Q := by
    simp (disch := first | exact c1_i _ | exact c1_r _ | exact c1_n | exact c1_m | omega | assumption | (apply ac_l; omega) | (apply ac_r; omega) | decide | exact Or.inl rfl) only [e_5_0, e_5_0n, e_5_1, Option.toList_some, Option.toList_none, List.cons_append, List.nil_append, catS_cons, catS_nil, cat_int, cat_long, cat_ref, cat_null, c1_i, c1_r, c1_n, c1_m, true_and, and_true, and_self, putR_1, putR_u, eq_self, Nat.reduceLT, Nat.reduceLeDiff, Nat.reduceAdd, Nat.reduceEqDiff, vk_i, vk_l, vk_r, vk_n, vk_0, vk_1, if_true, if_false, not_true_eq_false, not_false_eq_true, false_and, and_false, ne_eq, true_or, or_true, ite_not, reduceCtorEq, ni_ixL, ni_clL, ni_add, ni_mul, ni_lt, ni_le, ni_eq, ni_clamp, ni_ix, ni_lt0, ni_0le, ni_ltL, ni_Llt, ni_leL, ni_Lle, ni_eqL, ni_addL, ni_Ladd, ni_mulL, ni_Lmul, ni_subL, ni_sub, ni_Lsub, le_t, le_f, lt_t, lt_f, eq_f, il_lt, il_l0, il_g0, il_l1, il_g1, il_l2, il_g2, il_l3, il_g3, il_l4, il_g4, il_l5, il_g5, il_l7, il_g7, il_l8, il_g8, il_l9, il_g9, il_l10, il_g10, il_l15, il_g15, il_l20, il_g20, il_l23, il_g23, il_l24, il_g24, il_l60, il_g60, il_l100, il_g100, il_l999, il_g999, il_l1000, il_g1000]
  have k1 := ok_ap (e := (1, 25, 2, 22, 29, 0)) hk
  have k2 := ok_ap (e := (4, 25, 4, 40, 29, 0)) k1
  have k3 := ok_ap (e := (1, 25, 5, 20, 40, 0)) k2
  have k4 := ok_ap (e := (1, 25, 6, 20, 40, 0)) k3
  have st2 : Go (d + 1) 5 0 [.ref 25, mk0] [] H Q = Go (d + 1) 5 40 [.ref 25, mk0] [] (wrS.foldl ap H) Q := by
    rw [st, kw_0 hk, kw_1 k1, kw_2 k2, kw_3 k3]
    rfl
  have f1 : (wrS.foldl ap H).1 = 70 := by rw [fd_1, h26]; rfl
  have f2 : ((wrS.foldl ap H).2.2 25).2.2 6 = .ref 69 := by rw [fd_c, h26]; rfl
  have f3 : (wrS.foldl ap H).2.2 69 = (20, 40, fun _ => dflA 20) := by rw [fd_c, h26]; rfl
  have f4 : ((wrS.foldl ap H).2.2 25).1 = 10 := k4.2.2
  rw [List.foldl_append, st2]
  generalize wrS.foldl ap H = G at f1 f2 f3 f4 ⊢
  have st3 : Go (d + 1) 5 40 [.ref 25, mk0] [] G Q = Go (d + 1) 5 42 [.ref 25, .int (nI 0)] [] G Q := by
    simp (disch := first | exact c1_i _ | exact c1_r _ | exact c1_n | exact c1_m | omega | assumption | (apply ac_l; omega) | (apply ac_r; omega) | decide | exact Or.inl rfl) only [e_5_40, e_5_41, Option.toList_some, Option.toList_none, List.cons_append, List.nil_append, catS_cons, catS_nil, cat_int, cat_long, cat_ref, cat_null, c1_i, c1_r, c1_n, c1_m, true_and, and_true, and_self, putR_1, putR_u, eq_self, Nat.reduceLT, Nat.reduceLeDiff, Nat.reduceAdd, Nat.reduceEqDiff, vk_i, vk_l, vk_r, vk_n, vk_0, vk_1, if_true, if_false, not_true_eq_false, not_false_eq_true, false_and, and_false, ne_eq, true_or, or_true, ite_not, reduceCtorEq, ni_ixL, ni_clL, ni_add, ni_mul, ni_lt, ni_le, ni_eq, ni_clamp, ni_ix, ni_lt0, ni_0le, ni_ltL, ni_Llt, ni_leL, ni_Lle, ni_eqL, ni_addL, ni_Ladd, ni_mulL, ni_Lmul, ni_subL, ni_sub, ni_Lsub, le_t, le_f, lt_t, lt_f, eq_f, il_lt, il_l0, il_g0, il_l1, il_g1, il_l2, il_g2, il_l3, il_g3, il_l4, il_g4, il_l5, il_g5, il_l7, il_g7, il_l8, il_g8, il_l9, il_g9, il_l10, il_g10, il_l15, il_g15, il_l20, il_g20, il_l23, il_g23, il_l24, il_g24, il_l60, il_g60, il_l100, il_g100, il_l999, il_g999, il_l1000, il_g1000]
    rfl
  have e0 : odF 0 = (G.2.2 69).2.2 := by
    rw [f3]
    exact funext fun k => if_neg (Nat.not_lt_zero k)
  have p1 := kw_l (d := d) (Q := Q) (H := G) (by omega) f4 f2 (by rw [f3]) (by rw [f3]) 40 0 rfl
  rw [e0, wC_i] at p1
  rw [st3, p1]
  rfl
theorem ku_0 (hk : okO b 11 H) : Go (d + 1) 6 4 [.ref b] [] H Q = Go (d + 1) 6 13 [.ref b] [] (ap H (1, b, 3, 22, 240, 0)) Q := by
  obtain ⟨h1, h2, h3⟩ := hk
  show _ = Go (d + 1) 6 13 [.ref b] [] (al1 H b 3 22 240) Q
  unfold al1
  have e := hn_o (h := H) 22 240 (fun _ => dflA 22) (b := b) (by omega)
  have l2 : ¬ (240 : Int32) < 0 := by decide
  simp (disch := first | exact c1_i _ | exact c1_r _ | exact c1_n | exact c1_m | omega | assumption | (apply ac_l; omega) | (apply ac_r; omega) | decide | exact Or.inl rfl) only [e_6_4, e_6_4n, e_6_5, e_6_8, e_6_10, Option.toList_some, Option.toList_none, List.cons_append, List.nil_append, catS_cons, catS_nil, cat_int, cat_long, cat_ref, cat_null, c1_i, c1_r, c1_n, c1_m, true_and, and_true, and_self, putR_1, putR_u, eq_self, Nat.reduceLT, Nat.reduceLeDiff, Nat.reduceAdd, Nat.reduceEqDiff, vk_i, vk_l, vk_r, vk_n, vk_0, vk_1, if_true, if_false, not_true_eq_false, not_false_eq_true, false_and, and_false, ne_eq, true_or, or_true, ite_not, reduceCtorEq, ni_ixL, ni_clL, ni_add, ni_mul, ni_lt, ni_le, ni_eq, ni_clamp, ni_ix, ni_lt0, ni_0le, ni_ltL, ni_Llt, ni_leL, ni_Lle, ni_eqL, ni_addL, ni_Ladd, ni_mulL, ni_Lmul, ni_subL, ni_sub, ni_Lsub, le_t, le_f, lt_t, lt_f, eq_f, il_lt, il_l0, il_g0, il_l1, il_g1, il_l2, il_g2, il_l3, il_g3, il_l4, il_g4, il_l5, il_g5, il_l7, il_g7, il_l8, il_g8, il_l9, il_g9, il_l10, il_g10, il_l15, il_g15, il_l20, il_g20, il_l23, il_g23, il_l24, il_g24, il_l60, il_g60, il_l100, il_g100, il_l999, il_g999, il_l1000, il_g1000, hn_1, e, h3, l2]
theorem ku_1 (hk : okO b 11 H) : Go (d + 1) 6 13 [.ref b] [] H Q = Go (d + 1) 6 21 [.ref b] [] (ap H (1, b, 4, 20, 12, 0)) Q := by
  obtain ⟨h1, h2, h3⟩ := hk
  show _ = Go (d + 1) 6 21 [.ref b] [] (al1 H b 4 20 12) Q
  unfold al1
  have e := hn_o (h := H) 20 12 (fun _ => dflA 20) (b := b) (by omega)
  have l2 : ¬ (12 : Int32) < 0 := by decide
  simp (disch := first | exact c1_i _ | exact c1_r _ | exact c1_n | exact c1_m | omega | assumption | (apply ac_l; omega) | (apply ac_r; omega) | decide | exact Or.inl rfl) only [e_6_13, e_6_13n, e_6_14, e_6_16, e_6_18, Option.toList_some, Option.toList_none, List.cons_append, List.nil_append, catS_cons, catS_nil, cat_int, cat_long, cat_ref, cat_null, c1_i, c1_r, c1_n, c1_m, true_and, and_true, and_self, putR_1, putR_u, eq_self, Nat.reduceLT, Nat.reduceLeDiff, Nat.reduceAdd, Nat.reduceEqDiff, vk_i, vk_l, vk_r, vk_n, vk_0, vk_1, if_true, if_false, not_true_eq_false, not_false_eq_true, false_and, and_false, ne_eq, true_or, or_true, ite_not, reduceCtorEq, ni_ixL, ni_clL, ni_add, ni_mul, ni_lt, ni_le, ni_eq, ni_clamp, ni_ix, ni_lt0, ni_0le, ni_ltL, ni_Llt, ni_leL, ni_Lle, ni_eqL, ni_addL, ni_Ladd, ni_mulL, ni_Lmul, ni_subL, ni_sub, ni_Lsub, le_t, le_f, lt_t, lt_f, eq_f, il_lt, il_l0, il_g0, il_l1, il_g1, il_l2, il_g2, il_l3, il_g3, il_l4, il_g4, il_l5, il_g5, il_l7, il_g7, il_l8, il_g8, il_l9, il_g9, il_l10, il_g10, il_l15, il_g15, il_l20, il_g20, il_l23, il_g23, il_l24, il_g24, il_l60, il_g60, il_l100, il_g100, il_l999, il_g999, il_l1000, il_g1000, hn_1, e, h3, l2]
theorem ku_all (hk : okO b 11 H) : Go (d + 1) 6 0 [.ref b] [] H Q = Q none ((wtS b).foldl ap H) := by
  have st : Go (d + 1) 6 0 [.ref b] [] H Q = Go (d + 1) 6 4 [.ref b] [] H Q := by
    simp (disch := first | exact c1_i _ | exact c1_r _ | exact c1_n | exact c1_m | omega | assumption | (apply ac_l; omega) | (apply ac_r; omega) | decide | exact Or.inl rfl) only [e_6_0, e_6_0n, e_6_1, Option.toList_some, Option.toList_none, List.cons_append, List.nil_append, catS_cons, catS_nil, cat_int, cat_long, cat_ref, cat_null, c1_i, c1_r, c1_n, c1_m, true_and, and_true, and_self, putR_1, putR_u, eq_self, Nat.reduceLT, Nat.reduceLeDiff, Nat.reduceAdd, Nat.reduceEqDiff, vk_i, vk_l, vk_r, vk_n, vk_0, vk_1, if_true, if_false, not_true_eq_false, not_false_eq_true, false_and, and_false, ne_eq, true_or, or_true, ite_not, reduceCtorEq, ni_ixL, ni_clL, ni_add, ni_mul, ni_lt, ni_le, ni_eq, ni_clamp, ni_ix, ni_lt0, ni_0le, ni_ltL, ni_Llt, ni_leL, ni_Lle, ni_eqL, ni_addL, ni_Ladd, ni_mulL, ni_Lmul, ni_subL, ni_sub, ni_Lsub, le_t, le_f, lt_t, lt_f, eq_f, il_lt, il_l0, il_g0, il_l1, il_g1, il_l2, il_g2, il_l3, il_g3, il_l4, il_g4, il_l5, il_g5, il_l7, il_g7, il_l8, il_g8, il_l9, il_g9, il_l10, il_g10, il_l15, il_g15, il_l20, il_g20, il_l23, il_g23, il_l24, il_g24, il_l60, il_g60, il_l100, il_g100, il_l999, il_g999, il_l1000, il_g1000]
  have k1 := ok_ap (e := (1, b, 3, 22, 240, 0)) hk
  rw [st, ku_0 hk, ku_1 k1]
  simp (disch := first | exact c1_i _ | exact c1_r _ | exact c1_n | exact c1_m | omega | assumption | (apply ac_l; omega) | (apply ac_r; omega) | decide | exact Or.inl rfl) only [e_6_21, Option.toList_some, Option.toList_none, List.cons_append, List.nil_append, catS_cons, catS_nil, cat_int, cat_long, cat_ref, cat_null, c1_i, c1_r, c1_n, c1_m, true_and, and_true, and_self, putR_1, putR_u, eq_self, Nat.reduceLT, Nat.reduceLeDiff, Nat.reduceAdd, Nat.reduceEqDiff, vk_i, vk_l, vk_r, vk_n, vk_0, vk_1, if_true, if_false, not_true_eq_false, not_false_eq_true, false_and, and_false, ne_eq, true_or, or_true, ite_not, reduceCtorEq]
  rfl
end
