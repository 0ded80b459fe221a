section
variable {d a b f t n k i j m : Nat} {H H0 h : pheap} {Q : Option Value → pheap → Prop} {F : Nat → Value} {x : xS} {K : Nat → pcell} {L : Nat} {xs : Nat → Int32}
def H1Z (H0 : pheap) : pheap := ap H0 (2, 0, 0, 12, 16, 0)
def H2Z (H0 : pheap) : pheap := cL12.foldl ap (H1Z H0)
def H3Z (H0 : pheap) : pheap := ap (H2Z H0) (2, 0, 0, 13, 101, 0)
def HZ (H0 : pheap) : pheap := wC (ctL.foldl stp (H3Z H0)) 94 (knF (fun _ => dflA 23) 72)
theorem h1_1 (h5 : H0.1 = 5) : (H1Z H0).1 = 6 := by unfold H1Z; rw [ap_1, h5]; rfl
theorem h2_1 (h5 : H0.1 = 5) : (H2Z H0).1 = 73 := by unfold H2Z; rw [fd_1, h1_1 h5]; decide
theorem h3_1 (h5 : H0.1 = 5) : (H3Z H0).1 = 74 := by unfold H3Z; rw [ap_1, h2_1 h5]; rfl
theorem h1_k (h5 : H0.1 = 5) : okO 5 12 (H1Z H0) := ⟨by omega, by rw [h1_1 h5]; omega, by unfold H1Z; rw [ap_c, h5]; rfl⟩
theorem h3_c (h5 : H0.1 = 5) : (H3Z H0).2.2 73 = (13, 101, fun k => dflF (fkd (1000 * 13 + k))) := by unfold H3Z; rw [ap_c, h2_1 h5]; rfl
theorem h3_k (h5 : H0.1 = 5) : okH (H3Z H0) := ⟨by rw [h3_1 h5]; omega, by rw [h3_c h5]⟩
theorem x_start (h5 : H0.1 = 5) : Go (d + 101) 287 0 [.ref 0, mk0, mk0, mk0] [] H0 Q = Go (d + 101) 287 18 [.ref 0, .ref 5, .ref 73, .int (nI 0)] [] (HZ H0) Q := by
  have st : Go (d + 101) 287 0 [.ref 0, mk0, mk0, mk0] [] H0 Q = Go (d + 96 + 4) 0 0 [.ref 5] [] (H1Z H0) (fun r h' => Go (d + 101) 287 7 [.ref 0, mk0, mk0, mk0] (r.toList ++ [.ref 5]) h' Q) := by
    show _ = Go (d + 100) 0 0 [.ref 5] [] (hnew H0 12 16 (fun k => dflF (fkd (1000 * 12 + k)))) (fun r h' => Go (d + 101) 287 7 [.ref 0, mk0, mk0, mk0] (r.toList ++ [.ref 5]) h' Q)
    simp (disch := first | exact c1_i _ | exact c1_r _ | exact c1_n | exact c1_m | omega | assumption | (apply ac_l; omega) | (apply ac_r; omega) | decide | exact Or.inl rfl) only [e_287_0, e_287_3, e_287_4, Option.toList_some, Option.toList_none, List.cons_append, List.nil_append, catS_cons, catS_nil, cat_int, cat_long, cat_ref, cat_null, c1_i, c1_r, c1_n, c1_m, true_and, and_true, and_self, putR_1, putR_u, eq_self, Nat.reduceLT, Nat.reduceLeDiff, Nat.reduceAdd, Nat.reduceEqDiff, vk_i, vk_l, vk_r, vk_n, vk_0, vk_1, if_true, if_false, not_true_eq_false, not_false_eq_true, false_and, and_false, ne_eq, true_or, or_true, ite_not, reduceCtorEq, ni_ixL, ni_clL, ni_add, ni_mul, ni_lt, ni_le, ni_eq, ni_clamp, ni_ix, ni_lt0, ni_0le, ni_ltL, ni_Llt, ni_leL, ni_Lle, ni_eqL, ni_addL, ni_Ladd, ni_mulL, ni_Lmul, ni_subL, ni_sub, ni_Lsub, le_t, le_f, lt_t, lt_f, eq_f, il_lt, il_l0, il_g0, il_l1, il_g1, il_l2, il_g2, il_l3, il_g3, il_l4, il_g4, il_l5, il_g5, il_l7, il_g7, il_l8, il_g8, il_l9, il_g9, il_l10, il_g10, il_l15, il_g15, il_l20, il_g20, il_l23, il_g23, il_l24, il_g24, il_l60, il_g60, il_l100, il_g100, il_l999, il_g999, il_l1000, il_g1000, h5]
  rw [st, x_c0 (h1_k h5) (h1_1 h5)]
  show Go (d + 101) 287 7 [.ref 0, mk0, mk0, mk0] [.ref 5] (H2Z H0) Q = _
  have f73 := h2_1 h5
  have st2 : Go (d + 101) 287 7 [.ref 0, mk0, mk0, mk0] [.ref 5] (H2Z H0) Q = Go (d + 99 + 1) 170 0 [.ref 73, mk0, mk0] [] (H3Z H0) (fun r h' => Go (d + 101) 287 15 [.ref 0, .ref 5, mk0, mk0] (r.toList ++ [.ref 73]) h' Q) := by
    show _ = Go (d + 100) 170 0 [.ref 73, mk0, mk0] [] (hnew (H2Z H0) 13 101 (fun k => dflF (fkd (1000 * 13 + k)))) (fun r h' => Go (d + 101) 287 15 [.ref 0, .ref 5, mk0, mk0] (r.toList ++ [.ref 73]) h' Q)
    simp (disch := first | exact c1_i _ | exact c1_r _ | exact c1_n | exact c1_m | omega | assumption | (apply ac_l; omega) | (apply ac_r; omega) | decide | exact Or.inl rfl) only [e_287_7, e_287_7n, e_287_8, e_287_11, e_287_12, Option.toList_some, Option.toList_none, List.cons_append, List.nil_append, catS_cons, catS_nil, cat_int, cat_long, cat_ref, cat_null, c1_i, c1_r, c1_n, c1_m, true_and, and_true, and_self, putR_1, putR_u, eq_self, Nat.reduceLT, Nat.reduceLeDiff, Nat.reduceAdd, Nat.reduceEqDiff, vk_i, vk_l, vk_r, vk_n, vk_0, vk_1, if_true, if_false, not_true_eq_false, not_false_eq_true, false_and, and_false, ne_eq, true_or, or_true, ite_not, reduceCtorEq, ni_ixL, ni_clL, ni_add, ni_mul, ni_lt, ni_le, ni_eq, ni_clamp, ni_ix, ni_lt0, ni_0le, ni_ltL, ni_Llt, ni_leL, ni_Lle, ni_eqL, ni_addL, ni_Ladd, ni_mulL, ni_Lmul, ni_subL, ni_sub, ni_Lsub, le_t, le_f, lt_t, lt_f, eq_f, il_lt, il_l0, il_g0, il_l1, il_g1, il_l2, il_g2, il_l3, il_g3, il_l4, il_g4, il_l5, il_g5, il_l7, il_g7, il_l8, il_g8, il_l9, il_g9, il_l10, il_g10, il_l15, il_g15, il_l20, il_g20, il_l23, il_g23, il_l24, il_g24, il_l60, il_g60, il_l100, il_g100, il_l999, il_g999, il_l1000, il_g1000, f73]
  rw [st2, x_170 (h3_k h5) (h3_1 h5)]
  show Go (d + 101) 287 15 [.ref 0, .ref 5, mk0, mk0] [.ref 73] (HZ H0) Q = _
  generalize HZ H0 = X
  simp (disch := first | exact c1_i _ | exact c1_r _ | exact c1_n | exact c1_m | omega | assumption | (apply ac_l; omega) | (apply ac_r; omega) | decide | exact Or.inl rfl) only [e_287_15, e_287_15n, e_287_16, e_287_17, Option.toList_some, Option.toList_none, List.cons_append, List.nil_append, catS_cons, catS_nil, cat_int, cat_long, cat_ref, cat_null, c1_i, c1_r, c1_n, c1_m, true_and, and_true, and_self, putR_1, putR_u, eq_self, Nat.reduceLT, Nat.reduceLeDiff, Nat.reduceAdd, Nat.reduceEqDiff, vk_i, vk_l, vk_r, vk_n, vk_0, vk_1, if_true, if_false, not_true_eq_false, not_false_eq_true, false_and, and_false, ne_eq, true_or, or_true, ite_not, reduceCtorEq, ni_ixL, ni_clL, ni_add, ni_mul, ni_lt, ni_le, ni_eq, ni_clamp, ni_ix, ni_lt0, ni_0le, ni_ltL, ni_Llt, ni_leL, ni_Lle, ni_eqL, ni_addL, ni_Ladd, ni_mulL, ni_Lmul, ni_subL, ni_sub, ni_Lsub, le_t, le_f, lt_t, lt_f, eq_f, il_lt, il_l0, il_g0, il_l1, il_g1, il_l2, il_g2, il_l3, il_g3, il_l4, il_g4, il_l5, il_g5, il_l7, il_g7, il_l8, il_g8, il_l9, il_g9, il_l10, il_g10, il_l15, il_g15, il_l20, il_g20, il_l23, il_g23, il_l24, il_g24, il_l60, il_g60, il_l100, il_g100, il_l999, il_g999, il_l1000, il_g1000]
  rfl
theorem hz_1 (h5 : H0.1 = 5) : (HZ H0).1 = 146 := by
  show (ctL.foldl stp (H3Z H0)).1 = 146
  rw [fo_1, h3_1 h5]
  decide
theorem st_u {e : Nat × Nat × Nat × Int32} : (stp H e).2.1 = H.2.1 + (if e.2.1 = 0 then 0 else e.2.2.1) := by
  unfold stp
  by_cases z : e.2.1 = 0
  · rw [if_pos z, if_pos z]; rfl
  · rw [if_neg z, if_neg z]; rfl
def nV : List (Nat × Nat × Nat × Int32) → Nat
  | [] => 0
  | e :: l => (if e.2.1 = 0 then 0 else e.2.2.1) + nV l
theorem fo_u : ∀ (l : List (Nat × Nat × Nat × Int32)) (H : pheap), (l.foldl stp H).2.1 = H.2.1 + nV l
  | [], _ => rfl
  | e :: l, H => by
    rw [List.foldl_cons, fo_u l, st_u]
    show _ = H.2.1 + ((if e.2.1 = 0 then 0 else e.2.2.1) + nV l)
    omega
set_option maxRecDepth 20000 in
theorem hz_u (h0 : H0.2.1 = 0) : (HZ H0).2.1 ≤ 134000 := by
  show (ctL.foldl stp (ap (cL12.foldl ap (ap H0 (2, 0, 0, 12, 16, 0))) (2, 0, 0, 13, 101, 0))).2.1 ≤ 134000
  rw [fo_u, ap_u, fd_u, ap_u, h0]
  decide
theorem hz_lo (h5 : H0.1 = 5) (ha : a < 73) : (HZ H0).2.2 a = cf cL12 6 a ((H1Z H0).2.2 a) := by
  unfold HZ
  rw [wC_o (by omega), fo_lo ctL _ (by omega) (by rw [h3_1 h5]; omega)]
  unfold H3Z
  rw [ap_c, h2_1 h5]
  refine (if_neg (show ¬ a = 73 by omega)).trans ?_
  unfold H2Z
  rw [fd_c, h1_1 h5]
theorem h1_o (h5 : H0.1 = 5) (ha : a ≠ 5) : (H1Z H0).2.2 a = H0.2.2 a := by
  unfold H1Z
  rw [ap_c, h5]
  exact if_neg ha
theorem hz_x (h5 : H0.1 = 5) (ha : isX a) : (HZ H0).2.2 a = xcell xZ a := by
  rw [hz_lo h5 ha.2.1]
  refine cz_all a ha _ fun e => ?_
  subst e
  unfold H1Z
  rw [ap_c, h5]
  rfl
theorem hz_old (h5 : H0.1 = 5) (ha : a < 5) : (HZ H0).2.2 a = H0.2.2 a := by
  rw [hz_lo h5 (by omega), cz_old a ha, h1_o h5 (by omega)]
theorem hr_at (h5 : H0.1 = 5) (l1 l2 : List (Nat × Nat × Nat × Int32)) (e : Nat × Nat × Nat × Int32) (hl : ctL = l1 ++ e :: l2) (he : ¬ e.2.1 = 0) (ha : 74 + nA l1 = a) (h94 : a ≠ 94) : (HZ H0).2.2 a = (e.2.1, e.2.2.1, fun _ => dflA e.2.1) := by
  unfold HZ
  rw [wC_o h94, ← fo_at ctL (H3Z H0) l1 l2 e (h3_k h5) hl he, h3_1 h5, ha]
theorem FF_o : ∀ (l : List (Nat × Nat × Nat × Int32)) (b : Nat) (F : Nat → Value), (∀ e ∈ l, e.1 < 101) → 101 ≤ k → FF l b F k = F k
  | [], _, _, _, _ => rfl
  | e :: l, b, F, hl, hk => by
    have h1 := hl e List.mem_cons_self
    have h2 : ∀ e ∈ l, e.1 < 101 := fun e he => hl e (List.mem_cons_of_mem _ he)
    show (if e.2.1 = 0 then FF l b (updV F e.1 (.int e.2.2.2)) else FF l (b + 1) (updV F e.1 (.ref b))) k = F k
    by_cases z : e.2.1 = 0
    · rw [if_pos z, FF_o l _ _ h2 hk, uv_o _ _ (by omega)]
    · rw [if_neg z, FF_o l _ _ h2 hk, uv_o _ _ (by omega)]
theorem fk_13 (hk : 101 ≤ k) : fkd (1000 * 13 + k) = 9 := by
  by_cases h1 : k < 1000
  · exact fk_hi (Nat.le_trans (by decide) hk) h1
  · unfold fkd
    rw [gd_hi fkL _ _ (Nat.le_trans (show fkL.length ≤ 14 by decide) (by omega))]
    exact gd_hi _ _ _ (Nat.zero_le _)
set_option maxRecDepth 20000 in
theorem FF_lo : ∀ k, k < 101 → FF ctL 74 (fun k => dflF (fkd (1000 * 13 + k))) k = rfv rZ k := by decide +kernel
set_option maxRecDepth 20000 in
theorem hr_73 (h5 : H0.1 = 5) : (HZ H0).2.2 73 = rcell rZ 73 := by
  unfold HZ
  rw [wC_o (by omega), fo_f ctL _ (h3_k h5), h3_c h5, h3_1 h5]
  refine Prod.ext rfl (Prod.ext rfl (funext fun k => ?_))
  show FF ctL 74 (fun k => dflF (fkd (1000 * 13 + k))) k = rfv rZ k
  rcases Nat.lt_or_ge k 101 with hk | hk
  · exact FF_lo k hk
  · rw [FF_o ctL _ _ (by decide) hk, fk_13 hk]
    unfold rfv
    have e : rAd.getD k 0 = 0 := gd_hi _ _ _ (Nat.le_trans (by decide) hk)
    have e2 : rZ.1 k = 0 := (if_neg (by omega)).trans (if_neg (by omega))
    rw [if_pos e, if_neg (by omega), e2]
    rfl
set_option maxRecDepth 20000 in
theorem hr_94 (h5 : H0.1 = 5) : (HZ H0).2.2 94 = rcell rZ 94 := by
  have g3 := fo_at ctL (H3Z H0) (ctL.take 22) (ctL.drop 23) (35, 23, 72, 0) (h3_k h5) rfl (by decide)
  have n2 : nA (ctL.take 22) = 20 := by decide
  rw [n2, h3_1 h5] at g3
  unfold HZ
  rw [wC_s, g3]
  refine Prod.ext rfl (Prod.ext rfl (funext fun k => ?_))
  show (if k < 72 then Value.int 1 else .int 0) = .int (if k < 72 then 1 else 0)
  by_cases hk : k < 72
  · rw [if_pos hk, if_pos hk]
  · rw [if_neg hk, if_neg hk]
theorem hz_r (h5 : H0.1 = 5) : ∀ a, 73 ≤ a → a < 146 → (HZ H0).2.2 a = rcell rZ a
  | 0, h, _ => absurd h (by decide)
  | 1, h, _ => absurd h (by decide)
  | 2, h, _ => absurd h (by decide)
  | 3, h, _ => absurd h (by decide)
  | 4, h, _ => absurd h (by decide)
  | 5, h, _ => absurd h (by decide)
  | 6, h, _ => absurd h (by decide)
  | 7, h, _ => absurd h (by decide)
  | 8, h, _ => absurd h (by decide)
  | 9, h, _ => absurd h (by decide)
  | 10, h, _ => absurd h (by decide)
  | 11, h, _ => absurd h (by decide)
  | 12, h, _ => absurd h (by decide)
  | 13, h, _ => absurd h (by decide)
  | 14, h, _ => absurd h (by decide)
  | 15, h, _ => absurd h (by decide)
  | 16, h, _ => absurd h (by decide)
  | 17, h, _ => absurd h (by decide)
  | 18, h, _ => absurd h (by decide)
  | 19, h, _ => absurd h (by decide)
  | 20, h, _ => absurd h (by decide)
  | 21, h, _ => absurd h (by decide)
  | 22, h, _ => absurd h (by decide)
  | 23, h, _ => absurd h (by decide)
  | 24, h, _ => absurd h (by decide)
  | 25, h, _ => absurd h (by decide)
  | 26, h, _ => absurd h (by decide)
  | 27, h, _ => absurd h (by decide)
  | 28, h, _ => absurd h (by decide)
  | 29, h, _ => absurd h (by decide)
  | 30, h, _ => absurd h (by decide)
  | 31, h, _ => absurd h (by decide)
  | 32, h, _ => absurd h (by decide)
  | 33, h, _ => absurd h (by decide)
  | 34, h, _ => absurd h (by decide)
  | 35, h, _ => absurd h (by decide)
  | 36, h, _ => absurd h (by decide)
  | 37, h, _ => absurd h (by decide)
  | 38, h, _ => absurd h (by decide)
  | 39, h, _ => absurd h (by decide)
  | 40, h, _ => absurd h (by decide)
  | 41, h, _ => absurd h (by decide)
  | 42, h, _ => absurd h (by decide)
  | 43, h, _ => absurd h (by decide)
  | 44, h, _ => absurd h (by decide)
  | 45, h, _ => absurd h (by decide)
  | 46, h, _ => absurd h (by decide)
  | 47, h, _ => absurd h (by decide)
  | 48, h, _ => absurd h (by decide)
  | 49, h, _ => absurd h (by decide)
  | 50, h, _ => absurd h (by decide)
  | 51, h, _ => absurd h (by decide)
  | 52, h, _ => absurd h (by decide)
  | 53, h, _ => absurd h (by decide)
  | 54, h, _ => absurd h (by decide)
  | 55, h, _ => absurd h (by decide)
  | 56, h, _ => absurd h (by decide)
  | 57, h, _ => absurd h (by decide)
  | 58, h, _ => absurd h (by decide)
  | 59, h, _ => absurd h (by decide)
  | 60, h, _ => absurd h (by decide)
  | 61, h, _ => absurd h (by decide)
  | 62, h, _ => absurd h (by decide)
  | 63, h, _ => absurd h (by decide)
  | 64, h, _ => absurd h (by decide)
  | 65, h, _ => absurd h (by decide)
  | 66, h, _ => absurd h (by decide)
  | 67, h, _ => absurd h (by decide)
  | 68, h, _ => absurd h (by decide)
  | 69, h, _ => absurd h (by decide)
  | 70, h, _ => absurd h (by decide)
  | 71, h, _ => absurd h (by decide)
  | 72, h, _ => absurd h (by decide)
  | 73, _, _ => hr_73 h5
  | 74, _, _ => (hr_at h5 (ctL.take 0) (ctL.drop 1) (0, 20, 1500, 0) rfl (by decide) (by decide) (by decide)).trans (Prod.ext rfl (Prod.ext rfl (funext fun _ => rfl)))
  | 75, _, _ => (hr_at h5 (ctL.take 2) (ctL.drop 3) (9, 21, 9, 0) rfl (by decide) (by decide) (by decide)).trans (Prod.ext rfl (Prod.ext rfl (funext fun _ => rfl)))
  | 76, _, _ => (hr_at h5 (ctL.take 3) (ctL.drop 4) (10, 20, 9, 0) rfl (by decide) (by decide) (by decide)).trans (Prod.ext rfl (Prod.ext rfl (funext fun _ => rfl)))
  | 77, _, _ => (hr_at h5 (ctL.take 5) (ctL.drop 6) (12, 21, 6, 0) rfl (by decide) (by decide) (by decide)).trans (Prod.ext rfl (Prod.ext rfl (funext fun _ => rfl)))
  | 78, _, _ => (hr_at h5 (ctL.take 6) (ctL.drop 7) (13, 20, 6, 0) rfl (by decide) (by decide) (by decide)).trans (Prod.ext rfl (Prod.ext rfl (funext fun _ => rfl)))
  | 79, _, _ => (hr_at h5 (ctL.take 7) (ctL.drop 8) (14, 21, 36, 0) rfl (by decide) (by decide) (by decide)).trans (Prod.ext rfl (Prod.ext rfl (funext fun _ => rfl)))
  | 80, _, _ => (hr_at h5 (ctL.take 8) (ctL.drop 9) (15, 20, 36, 0) rfl (by decide) (by decide) (by decide)).trans (Prod.ext rfl (Prod.ext rfl (funext fun _ => rfl)))
  | 81, _, _ => (hr_at h5 (ctL.take 9) (ctL.drop 10) (17, 21, 8, 0) rfl (by decide) (by decide) (by decide)).trans (Prod.ext rfl (Prod.ext rfl (funext fun _ => rfl)))
  | 82, _, _ => (hr_at h5 (ctL.take 10) (ctL.drop 11) (18, 20, 8, 0) rfl (by decide) (by decide) (by decide)).trans (Prod.ext rfl (Prod.ext rfl (funext fun _ => rfl)))
  | 83, _, _ => (hr_at h5 (ctL.take 11) (ctL.drop 12) (19, 21, 64, 0) rfl (by decide) (by decide) (by decide)).trans (Prod.ext rfl (Prod.ext rfl (funext fun _ => rfl)))
  | 84, _, _ => (hr_at h5 (ctL.take 12) (ctL.drop 13) (20, 20, 64, 0) rfl (by decide) (by decide) (by decide)).trans (Prod.ext rfl (Prod.ext rfl (funext fun _ => rfl)))
  | 85, _, _ => (hr_at h5 (ctL.take 13) (ctL.drop 14) (21, 20, 64, 0) rfl (by decide) (by decide) (by decide)).trans (Prod.ext rfl (Prod.ext rfl (funext fun _ => rfl)))
  | 86, _, _ => (hr_at h5 (ctL.take 14) (ctL.drop 15) (22, 20, 192, 0) rfl (by decide) (by decide) (by decide)).trans (Prod.ext rfl (Prod.ext rfl (funext fun _ => rfl)))
  | 87, _, _ => (hr_at h5 (ctL.take 15) (ctL.drop 16) (24, 21, 790, 0) rfl (by decide) (by decide) (by decide)).trans (Prod.ext rfl (Prod.ext rfl (funext fun _ => rfl)))
  | 88, _, _ => (hr_at h5 (ctL.take 16) (ctL.drop 17) (25, 20, 790, 0) rfl (by decide) (by decide) (by decide)).trans (Prod.ext rfl (Prod.ext rfl (funext fun _ => rfl)))
  | 89, _, _ => (hr_at h5 (ctL.take 17) (ctL.drop 18) (26, 20, 12640, 0) rfl (by decide) (by decide) (by decide)).trans (Prod.ext rfl (Prod.ext rfl (funext fun _ => rfl)))
  | 90, _, _ => (hr_at h5 (ctL.take 18) (ctL.drop 19) (27, 20, 16, 0) rfl (by decide) (by decide) (by decide)).trans (Prod.ext rfl (Prod.ext rfl (funext fun _ => rfl)))
  | 91, _, _ => (hr_at h5 (ctL.take 19) (ctL.drop 20) (29, 20, 3, 0) rfl (by decide) (by decide) (by decide)).trans (Prod.ext rfl (Prod.ext rfl (funext fun _ => rfl)))
  | 92, _, _ => (hr_at h5 (ctL.take 20) (ctL.drop 21) (31, 20, 60, 0) rfl (by decide) (by decide) (by decide)).trans (Prod.ext rfl (Prod.ext rfl (funext fun _ => rfl)))
  | 93, _, _ => (hr_at h5 (ctL.take 21) (ctL.drop 22) (34, 20, 8, 0) rfl (by decide) (by decide) (by decide)).trans (Prod.ext rfl (Prod.ext rfl (funext fun _ => rfl)))
  | 94, _, _ => hr_94 h5
  | 95, _, _ => (hr_at h5 (ctL.take 23) (ctL.drop 24) (36, 20, 192, 0) rfl (by decide) (by decide) (by decide)).trans (Prod.ext rfl (Prod.ext rfl (funext fun _ => rfl)))
  | 96, _, _ => (hr_at h5 (ctL.take 24) (ctL.drop 25) (37, 20, 32, 0) rfl (by decide) (by decide) (by decide)).trans (Prod.ext rfl (Prod.ext rfl (funext fun _ => rfl)))
  | 97, _, _ => (hr_at h5 (ctL.take 25) (ctL.drop 26) (38, 20, 8, 0) rfl (by decide) (by decide) (by decide)).trans (Prod.ext rfl (Prod.ext rfl (funext fun _ => rfl)))
  | 98, _, _ => (hr_at h5 (ctL.take 26) (ctL.drop 27) (39, 20, 8, 0) rfl (by decide) (by decide) (by decide)).trans (Prod.ext rfl (Prod.ext rfl (funext fun _ => rfl)))
  | 99, _, _ => (hr_at h5 (ctL.take 27) (ctL.drop 28) (40, 20, 8, 0) rfl (by decide) (by decide) (by decide)).trans (Prod.ext rfl (Prod.ext rfl (funext fun _ => rfl)))
  | 100, _, _ => (hr_at h5 (ctL.take 28) (ctL.drop 29) (42, 20, 24, 0) rfl (by decide) (by decide) (by decide)).trans (Prod.ext rfl (Prod.ext rfl (funext fun _ => rfl)))
  | 101, _, _ => (hr_at h5 (ctL.take 29) (ctL.drop 30) (43, 20, 24, 0) rfl (by decide) (by decide) (by decide)).trans (Prod.ext rfl (Prod.ext rfl (funext fun _ => rfl)))
  | 102, _, _ => (hr_at h5 (ctL.take 30) (ctL.drop 31) (44, 20, 24, 0) rfl (by decide) (by decide) (by decide)).trans (Prod.ext rfl (Prod.ext rfl (funext fun _ => rfl)))
  | 103, _, _ => (hr_at h5 (ctL.take 31) (ctL.drop 32) (45, 20, 24, 0) rfl (by decide) (by decide) (by decide)).trans (Prod.ext rfl (Prod.ext rfl (funext fun _ => rfl)))
  | 104, _, _ => (hr_at h5 (ctL.take 32) (ctL.drop 33) (46, 20, 24, 0) rfl (by decide) (by decide) (by decide)).trans (Prod.ext rfl (Prod.ext rfl (funext fun _ => rfl)))
  | 105, _, _ => (hr_at h5 (ctL.take 33) (ctL.drop 34) (47, 20, 24, 0) rfl (by decide) (by decide) (by decide)).trans (Prod.ext rfl (Prod.ext rfl (funext fun _ => rfl)))
  | 106, _, _ => (hr_at h5 (ctL.take 34) (ctL.drop 35) (48, 21, 24, 0) rfl (by decide) (by decide) (by decide)).trans (Prod.ext rfl (Prod.ext rfl (funext fun _ => rfl)))
  | 107, _, _ => (hr_at h5 (ctL.take 35) (ctL.drop 36) (49, 20, 24, 0) rfl (by decide) (by decide) (by decide)).trans (Prod.ext rfl (Prod.ext rfl (funext fun _ => rfl)))
  | 108, _, _ => (hr_at h5 (ctL.take 36) (ctL.drop 37) (51, 20, 16, 0) rfl (by decide) (by decide) (by decide)).trans (Prod.ext rfl (Prod.ext rfl (funext fun _ => rfl)))
  | 109, _, _ => (hr_at h5 (ctL.take 37) (ctL.drop 38) (52, 20, 16, 0) rfl (by decide) (by decide) (by decide)).trans (Prod.ext rfl (Prod.ext rfl (funext fun _ => rfl)))
  | 110, _, _ => (hr_at h5 (ctL.take 38) (ctL.drop 39) (53, 20, 16, 0) rfl (by decide) (by decide) (by decide)).trans (Prod.ext rfl (Prod.ext rfl (funext fun _ => rfl)))
  | 111, _, _ => (hr_at h5 (ctL.take 39) (ctL.drop 40) (54, 20, 32, 0) rfl (by decide) (by decide) (by decide)).trans (Prod.ext rfl (Prod.ext rfl (funext fun _ => rfl)))
  | 112, _, _ => (hr_at h5 (ctL.take 40) (ctL.drop 41) (55, 20, 16, 0) rfl (by decide) (by decide) (by decide)).trans (Prod.ext rfl (Prod.ext rfl (funext fun _ => rfl)))
  | 113, _, _ => (hr_at h5 (ctL.take 41) (ctL.drop 42) (56, 20, 16, 0) rfl (by decide) (by decide) (by decide)).trans (Prod.ext rfl (Prod.ext rfl (funext fun _ => rfl)))
  | 114, _, _ => (hr_at h5 (ctL.take 42) (ctL.drop 43) (58, 20, 60, 0) rfl (by decide) (by decide) (by decide)).trans (Prod.ext rfl (Prod.ext rfl (funext fun _ => rfl)))
  | 115, _, _ => (hr_at h5 (ctL.take 43) (ctL.drop 44) (59, 20, 60, 0) rfl (by decide) (by decide) (by decide)).trans (Prod.ext rfl (Prod.ext rfl (funext fun _ => rfl)))
  | 116, _, _ => (hr_at h5 (ctL.take 44) (ctL.drop 45) (60, 20, 60, 0) rfl (by decide) (by decide) (by decide)).trans (Prod.ext rfl (Prod.ext rfl (funext fun _ => rfl)))
  | 117, _, _ => (hr_at h5 (ctL.take 45) (ctL.drop 46) (61, 20, 60, 0) rfl (by decide) (by decide) (by decide)).trans (Prod.ext rfl (Prod.ext rfl (funext fun _ => rfl)))
  | 118, _, _ => (hr_at h5 (ctL.take 46) (ctL.drop 47) (62, 20, 60, 0) rfl (by decide) (by decide) (by decide)).trans (Prod.ext rfl (Prod.ext rfl (funext fun _ => rfl)))
  | 119, _, _ => (hr_at h5 (ctL.take 47) (ctL.drop 48) (63, 20, 60, 0) rfl (by decide) (by decide) (by decide)).trans (Prod.ext rfl (Prod.ext rfl (funext fun _ => rfl)))
  | 120, _, _ => (hr_at h5 (ctL.take 48) (ctL.drop 49) (64, 23, 60, 0) rfl (by decide) (by decide) (by decide)).trans (Prod.ext rfl (Prod.ext rfl (funext fun _ => rfl)))
  | 121, _, _ => (hr_at h5 (ctL.take 49) (ctL.drop 50) (65, 20, 60, 0) rfl (by decide) (by decide) (by decide)).trans (Prod.ext rfl (Prod.ext rfl (funext fun _ => rfl)))
  | 122, _, _ => (hr_at h5 (ctL.take 50) (ctL.drop 51) (66, 20, 60, 0) rfl (by decide) (by decide) (by decide)).trans (Prod.ext rfl (Prod.ext rfl (funext fun _ => rfl)))
  | 123, _, _ => (hr_at h5 (ctL.take 51) (ctL.drop 52) (67, 20, 14400, 0) rfl (by decide) (by decide) (by decide)).trans (Prod.ext rfl (Prod.ext rfl (funext fun _ => rfl)))
  | 124, _, _ => (hr_at h5 (ctL.take 52) (ctL.drop 53) (68, 20, 60, 0) rfl (by decide) (by decide) (by decide)).trans (Prod.ext rfl (Prod.ext rfl (funext fun _ => rfl)))
  | 125, _, _ => (hr_at h5 (ctL.take 53) (ctL.drop 54) (69, 23, 60, 0) rfl (by decide) (by decide) (by decide)).trans (Prod.ext rfl (Prod.ext rfl (funext fun _ => rfl)))
  | 126, _, _ => (hr_at h5 (ctL.take 54) (ctL.drop 55) (70, 23, 60, 0) rfl (by decide) (by decide) (by decide)).trans (Prod.ext rfl (Prod.ext rfl (funext fun _ => rfl)))
  | 127, _, _ => (hr_at h5 (ctL.take 55) (ctL.drop 56) (71, 20, 14400, 0) rfl (by decide) (by decide) (by decide)).trans (Prod.ext rfl (Prod.ext rfl (funext fun _ => rfl)))
  | 128, _, _ => (hr_at h5 (ctL.take 56) (ctL.drop 57) (72, 20, 60, 0) rfl (by decide) (by decide) (by decide)).trans (Prod.ext rfl (Prod.ext rfl (funext fun _ => rfl)))
  | 129, _, _ => (hr_at h5 (ctL.take 57) (ctL.drop 58) (73, 20, 60, 0) rfl (by decide) (by decide) (by decide)).trans (Prod.ext rfl (Prod.ext rfl (funext fun _ => rfl)))
  | 130, _, _ => (hr_at h5 (ctL.take 58) (ctL.drop 59) (74, 23, 60, 0) rfl (by decide) (by decide) (by decide)).trans (Prod.ext rfl (Prod.ext rfl (funext fun _ => rfl)))
  | 131, _, _ => (hr_at h5 (ctL.take 59) (ctL.drop 60) (76, 20, 61, 0) rfl (by decide) (by decide) (by decide)).trans (Prod.ext rfl (Prod.ext rfl (funext fun _ => rfl)))
  | 132, _, _ => (hr_at h5 (ctL.take 60) (ctL.drop 61) (77, 20, 3660, 0) rfl (by decide) (by decide) (by decide)).trans (Prod.ext rfl (Prod.ext rfl (funext fun _ => rfl)))
  | 133, _, _ => (hr_at h5 (ctL.take 61) (ctL.drop 62) (79, 20, 64, 0) rfl (by decide) (by decide) (by decide)).trans (Prod.ext rfl (Prod.ext rfl (funext fun _ => rfl)))
  | 134, _, _ => (hr_at h5 (ctL.take 62) (ctL.drop 63) (80, 20, 240, 0) rfl (by decide) (by decide) (by decide)).trans (Prod.ext rfl (Prod.ext rfl (funext fun _ => rfl)))
  | 135, _, _ => (hr_at h5 (ctL.take 63) (ctL.drop 64) (83, 20, 12, 0) rfl (by decide) (by decide) (by decide)).trans (Prod.ext rfl (Prod.ext rfl (funext fun _ => rfl)))
  | 136, _, _ => (hr_at h5 (ctL.take 64) (ctL.drop 65) (85, 20, 100, 0) rfl (by decide) (by decide) (by decide)).trans (Prod.ext rfl (Prod.ext rfl (funext fun _ => rfl)))
  | 137, _, _ => (hr_at h5 (ctL.take 65) (ctL.drop 66) (86, 20, 100, 0) rfl (by decide) (by decide) (by decide)).trans (Prod.ext rfl (Prod.ext rfl (funext fun _ => rfl)))
  | 138, _, _ => (hr_at h5 (ctL.take 66) (ctL.drop 67) (91, 20, 12, 0) rfl (by decide) (by decide) (by decide)).trans (Prod.ext rfl (Prod.ext rfl (funext fun _ => rfl)))
  | 139, _, _ => (hr_at h5 (ctL.take 67) (ctL.drop 68) (92, 20, 1320, 0) rfl (by decide) (by decide) (by decide)).trans (Prod.ext rfl (Prod.ext rfl (funext fun _ => rfl)))
  | 140, _, _ => (hr_at h5 (ctL.take 68) (ctL.drop 69) (93, 20, 41, 0) rfl (by decide) (by decide) (by decide)).trans (Prod.ext rfl (Prod.ext rfl (funext fun _ => rfl)))
  | 141, _, _ => (hr_at h5 (ctL.take 69) (ctL.drop 70) (96, 20, 28800, 0) rfl (by decide) (by decide) (by decide)).trans (Prod.ext rfl (Prod.ext rfl (funext fun _ => rfl)))
  | 142, _, _ => (hr_at h5 (ctL.take 70) (ctL.drop 71) (97, 20, 1200, 0) rfl (by decide) (by decide) (by decide)).trans (Prod.ext rfl (Prod.ext rfl (funext fun _ => rfl)))
  | 143, _, _ => (hr_at h5 (ctL.take 71) (ctL.drop 72) (98, 20, 120, 0) rfl (by decide) (by decide) (by decide)).trans (Prod.ext rfl (Prod.ext rfl (funext fun _ => rfl)))
  | 144, _, _ => (hr_at h5 (ctL.take 72) (ctL.drop 73) (99, 20, 120, 0) rfl (by decide) (by decide) (by decide)).trans (Prod.ext rfl (Prod.ext rfl (funext fun _ => rfl)))
  | 145, _, _ => (hr_at h5 (ctL.take 73) (ctL.drop 74) (100, 20, 60, 0) rfl (by decide) (by decide) (by decide)).trans (Prod.ext rfl (Prod.ext rfl (funext fun _ => rfl)))
  | n + 146, _, h => absurd h (by omega)
theorem hz_eq (h5 : H0.1 = 5) : putR rZ (putX xZ (HZ H0)) = HZ H0 := by
  refine Prod.ext rfl (Prod.ext rfl (funext fun a => ?_))
  show (if 73 ≤ a ∧ a < 146 then rcell rZ a else if 5 ≤ a ∧ a < 73 ∧ ¬ (7 ≤ a ∧ a < 18) then xcell xZ a else (HZ H0).2.2 a) = (HZ H0).2.2 a
  by_cases h1 : 73 ≤ a ∧ a < 146
  · rw [if_pos h1, hz_r h5 a h1.1 h1.2]
  · rw [if_neg h1]
    by_cases h2 : 5 ≤ a ∧ a < 73 ∧ ¬ (7 ≤ a ∧ a < 18)
    · rw [if_pos h2, hz_x h5 h2]
    · rw [if_neg h2]
end
