/-! nodes -/
def sLR (r : rS) (a : Nat) (f : Nat → Int64) : rS := (r.1, r.2.1, r.2.2.1, upN r.2.2.2 a f)
theorem sLR_1 (r : rS) (a : Nat) (f : Nat → Int64) : (sLR r a f).1 = r.1 := rfl
theorem sLR_A (r : rS) (a : Nat) (f : Nat → Int64) : (sLR r a f).2.2.1 = r.2.2.1 := rfl
theorem sLR_s (r : rS) (a : Nat) (f : Nat → Int64) : (sLR r a f).2.2.2 a = f := upN_s _ _ _
theorem sLR_n (r : rS) {a b : Nat} (f : Nat → Int64) (h : b ≠ a) : (sLR r a f).2.2.2 b = r.2.2.2 b := upN_n _ _ h
theorem sLR_i (r : rS) (a : Nat) : sLR r a (r.2.2.2 a) = r := by
  unfold sLR
  rw [upN_i]
theorem sL_LR (r : rS) (a k : Nat) (f : Nat → Int64) (v : Int64) : sL (sLR r a f) a k v = sLR r a (upN f k v) := by
  unfold sL sLR
  dsimp only
  rw [upN_s, upN_u]
theorem sL_R (r : rS) (a b k : Nat) (f : Nat → Int32) (v : Int64) : sL (sR r a f) b k v = sR (sL r b k v) a f := rfl
theorem sA_LR (r : rS) (a b k : Nat) (f : Nat → Int64) (v : Int32) : sA (sLR r a f) b k v = sLR (sA r b k v) a f := rfl
theorem sR_LR (r : rS) (a b : Nat) (f : Nat → Int64) (f' : Nat → Int32) : sR (sLR r a f) b f' = sLR (sR r b f') a f := rfl
theorem sLR_sL (r : rS) (a k : Nat) (v : Int64) : sL r a k v = sLR r a (upN (r.2.2.2 a) k v) := rfl
def wrL (f b : Nat → Int64) (s j : Nat) : Nat → Int64 := fun k => if s ≤ k ∧ k < s + j then b (k - s) else f k
theorem wrL_0 (f b : Nat → Int64) (s : Nat) : wrL f b s 0 = f := funext fun k => if_neg (by omega)
theorem wrL_u (f b : Nat → Int64) (s j : Nat) : upN (wrL f b s j) (s + j) (b j) = wrL f b s (j + 1) := funext fun k => by
  unfold upN wrL
  by_cases h1 : k = s + j
  · subst h1
    rw [if_pos rfl, if_pos (by omega), show s + j - s = j by omega]
  · rw [if_neg h1]
    by_cases h2 : s ≤ k ∧ k < s + j
    · rw [if_pos h2, if_pos (by omega)]
    · rw [if_neg h2, if_neg (by omega)]
theorem wrL_i (f b : Nat → Int64) {s j k : Nat} (h : k < j) : wrL f b s j (s + k) = b k := by
  unfold wrL
  rw [if_pos (by omega), show s + k - s = k by omega]
theorem wrL_o (f b : Nat → Int64) {s j k : Nat} (h : k < s ∨ s + j ≤ k) : wrL f b s j k = f k := if_neg (by omega)
section
variable {K : Nat → pcell} {tb : Nat} {g g' g0 g1 : gS} {r r' r0 : rS} {x x' x1 : xS} {h h' h1 : pheap} {d : Nat} {Q : Option Value → pheap → Prop} {a n k m rc : Nat} {fs : Nat → Int32}
def nodH (h : pheap) (rc : Int32) (n : Nat) (fs : Nat → Int32) : Nat → pheap
  | 0 => hset (hnew (hset (hnew h 7 2 (fun k => dflF (fkd (1000 * 7 + k)))) h.1 0 (.int rc)) 25 n (fun _ => .null)) h.1 1 (.ref (h.1 + 1))
  | k + 1 => hset (mkV (nodH h rc n fs k) (fs k) (zv (fs k)) 0) (h.1 + 1) k (.ref (nodH h rc n fs k).1)
theorem nodH_1 {rc : Int32} : ∀ k, (nodH h rc n fs k).1 = h.1 + 2 + k
  | 0 => rfl
  | k + 1 => by
    have := nodH_1 (rc := rc) k
    show (nodH h rc n fs k).1 + 1 = _
    rw [this]; omega
theorem nodH_u {rc : Int32} : ∀ k, (nodH h rc n fs k).2.1 = h.2.1 + 2 + n + 3 * k
  | 0 => rfl
  | k + 1 => by
    have := nodH_u (rc := rc) k
    show (nodH h rc n fs k).2.1 + 3 = _
    rw [this]; omega
theorem nodH_lo {rc : Int32} {b : Nat} (hb : b < h.1) : ∀ k, (nodH h rc n fs k).2.2 b = h.2.2 b
  | 0 => by
    unfold nodH
    rw [hs_o _ _ (by omega), hn_o _ _ _ (by rw [hs_1, hn_1]; omega), hs_o _ _ (by omega), hn_o _ _ _ (by omega)]
  | k + 1 => by
    have e := nodH_1 (h := h) (n := n) (fs := fs) (rc := rc) k
    unfold nodH
    rw [hs_o _ _ (by omega), mkV_o (by omega)]
    exact nodH_lo hb k
theorem nodH_n : ∀ k, cNod h.1 rc ((nodH h (nI rc) n fs k).2.2 h.1)
  | 0 => by
    unfold nodH
    rw [hs_s, hn_o _ _ _ (by rw [hs_1, hn_1]; omega), hs_s, hn_s]
    exact ⟨rfl, rfl, rfl⟩
  | k + 1 => by
    have e := nodH_1 (h := h) (n := n) (fs := fs) (rc := nI rc) k
    unfold nodH
    rw [hs_o _ _ (by omega), mkV_o (by omega)]
    exact nodH_n k
theorem nodH_a {rc : Int32} : ∀ k, ((nodH h rc n fs k).2.2 (h.1 + 1)).1 = 25 ∧ ((nodH h rc n fs k).2.2 (h.1 + 1)).2.1 = n ∧ ∀ j, j < k → ((nodH h rc n fs k).2.2 (h.1 + 1)).2.2 j = .ref (h.1 + 2 + j)
  | 0 => by
    unfold nodH
    rw [hs_o _ _ (by omega)]
    have e : h.1 + 1 = (hset (hnew h 7 2 (fun k => dflF (fkd (1000 * 7 + k)))) h.1 0 (.int rc)).1 := rfl
    rw [e, hn_s]
    exact ⟨rfl, rfl, fun j hj => absurd hj (by omega)⟩
  | k + 1 => by
    have e := nodH_1 (h := h) (n := n) (fs := fs) (rc := rc) k
    obtain ⟨i1, i2, i3⟩ := nodH_a (rc := rc) k
    unfold nodH
    rw [hs_s, mkV_o (by omega)]
    refine ⟨i1, i2, fun j hj => ?_⟩
    show updV _ k _ j = _
    by_cases hjk : j = k
    · subst hjk
      rw [uv_s, e]
    · rw [uv_o _ _ hjk]
      exact i3 j (by omega)
def nodG (g : gS) (b : Nat) (fs : Nat → Int32) : Nat → gS
  | 0 => g
  | k + 1 => gW (nodG g b fs k) (b + 2 + k) (fs k) (zv (fs k)) 0
theorem nodG_g {b : Nat} : ∀ k, (nodG g b fs k).1 = g.1 ∧ (nodG g b fs k).2.2.2.2 = g.2.2.2.2
  | 0 => ⟨rfl, rfl⟩
  | k + 1 => nodG_g k
theorem nodG_ro {b c : Nat} : ∀ k, (c < b + 2 ∨ b + 2 + k ≤ c) → (nodG g b fs k).2.2.2.1 c = g.2.2.2.1 c
  | 0, _ => rfl
  | k + 1, hc => by
    have := nodG_ro (b := b) (c := c) k (by omega)
    unfold nodG
    rw [← this]
    exact gP_rn (by omega)
theorem nodG_v {b : Nat} : ∀ k j, j < k → (nodG g b fs k).2.2.2.1 (b + 2 + j) = (1, 0) ∧ (nodG g b fs k).2.1 (b + 2 + j) = (fs j, zv (fs j), 0)
  | 0, j, hj => absurd hj (by omega)
  | k + 1, j, hj => by
    unfold nodG
    by_cases hjk : j = k
    · subst hjk
      exact ⟨gP_ro, gP_va⟩
    · have := nodG_v (b := b) k j (by omega)
      unfold gW
      rw [gP_rn (by omega), gP_vn (by omega)]
      exact this
theorem w_nodH (hw : World K tb g r x h) {rc : Int32} : ∀ k, World K tb (nodG g h.1 fs k) r x (nodH h rc n fs k)
  | 0 => by
    have hh := sim_146 hw.1
    have t0 := sim_top hw.1 (Nat.le_refl h.1)
    exact ⟨sim_junk (sim_new (sim_junk (sim_new hw.1 _ _ _) t0 hh _ _) _ _ _) t0 hh _ _, hw.2⟩
  | k + 1 => by
    have hh := sim_146 hw.1
    have ih := w_nodH hw (rc := rc) k
    have e := nodH_1 (h := h) (n := n) (fs := fs) (rc := rc) k
    have hv := w_mkV ih (s := fs k) (v := zv (fs k)) (t := 0) (fun z => absurd rfl z)
    rw [e] at hv
    unfold nodH nodG
    refine ⟨sim_junk hv.1 ?_ (by omega) _ _, hv.2⟩
    unfold gW
    rw [gP_rn (by omega), nodG_ro k (by omega)]
    exact sim_top hw.1 (by omega)
theorem l_newNode (hs : Sim K g r x h) (hrc : rc < (g.2.2.2.2.1 2)) (hfc : n = (g.2.2.2.2.2 8) rc) (hn6 : n ≤ 6) (hr6 : (g.2.2.2.2.1 2) ≤ 6) (hfs : ∀ i, i < n → fs i = (r.2.2.1 80) (6 * rc + i)) : ∀ m k, k + m = n → Go (d + 4) 38 24 [.ref h.1, .int (nI rc), .ref (x.2 0), .int (nI k)] [] (putR r0 (putX x (nodH h (nI rc) n fs k))) Q = Q none (putR r0 (putX x (nodH h (nI rc) n fs n)))
  | 0, k, hk => by
    have hh := sim_146 hs
    have : k = n := by omega
    subst this
    have e := nodH_1 (h := h) (n := k) (fs := fs) (rc := nI rc) k
    obtain ⟨u1, u2, u3⟩ := nodH_n (h := h) (n := k) (fs := fs) (rc := rc) k
    obtain ⟨v1, v2, v3⟩ := nodH_a (h := h) (n := k) (fs := fs) (rc := nI rc) k
    simp (disch := first | exact c1_i _ | exact c1_r _ | exact c1_n | exact c1_m | omega | assumption | (simp only [hn_1, hs_1, hC_1]; omega) | (apply ac_l; omega) | (apply ac_r; omega) | decide | exact Or.inl rfl) only [e_38_24, e_38_25, e_38_25n, e_38_26, e_38_29, e_38_30, e_38_59, Option.toList_some, Option.toList_none, List.cons_append, List.nil_append, catS_cons, catS_nil, cat_int, cat_long, cat_ref, cat_null, c1_i, c1_r, c1_n, c1_m, true_and, and_true, and_self, putR_1, putR_u, eq_self, Nat.reduceLT, Nat.reduceLeDiff, Nat.reduceAdd, Nat.reduceEqDiff, vk_i, vk_l, vk_r, vk_n, vk_0, vk_1, if_true, if_false, not_true_eq_false, not_false_eq_true, false_and, and_false, ne_eq, true_or, or_true, ite_not, reduceCtorEq, putX_1, putX_u, putX_hi, hset_Xhi, px_5, xf_5_0, xf_5_1, xI_5_1, xf_5_2, xR_0, xf_5_3, xI_5_3, xf_5_4, xI_5_4, xf_5_5, xf_5_6, xI_5_6, xf_5_7, xf_5_8, xf_5_9, xf_5_10, xf_5_11, xf_5_12, xf_5_13, xf_5_14, xf_5_15, xI_5_15, px_6, xA_6, px_18, xA_18, px_19, xf_19_0, xI_19_0, xf_19_1, xR_1, xf_19_2, xI_19_2, px_20, xf_20_0, xI_20_0, xf_20_1, xR_2, xf_20_2, xI_20_2, px_21, xf_21_0, xI_21_0, xf_21_1, xR_3, xf_21_2, xI_21_2, px_22, xf_22_0, xI_22_0, xf_22_1, xR_4, xf_22_2, xI_22_2, px_23, xf_23_0, xI_23_0, xf_23_1, xR_5, xf_23_2, xI_23_2, px_24, xf_24_0, xI_24_0, xf_24_1, xR_6, xf_24_2, xI_24_2, px_25, xf_25_0, xI_25_0, xf_25_1, xI_25_1, xf_25_2, xf_25_3, xI_25_3, xf_25_4, xf_25_5, xf_25_6, px_26, xA_26, px_27, px_28, xA_28, px_29, xA_29, px_30, xA_30, px_31, xA_31, px_32, xA_32, px_33, xA_33, px_34, xA_34, px_35, xA_35, px_36, xA_36, px_37, xA_37, px_38, xA_38, px_39, xA_39, px_40, xA_40, px_41, xA_41, px_42, xA_42, px_43, xA_43, px_44, xA_44, px_45, xA_45, px_46, xA_46, px_47, xA_47, px_48, xA_48, px_49, xA_49, px_50, xA_50, px_51, xA_51, px_52, xA_52, px_53, xA_53, px_54, xA_54, px_55, xA_55, px_56, xA_56, px_57, xA_57, px_58, xA_58, px_59, xA_59, px_60, xA_60, px_61, xA_61, px_62, xA_62, px_63, xA_63, px_64, xA_64, px_65, xA_65, px_66, xA_66, px_67, xA_67, px_68, xA_68, px_69, xA_69, px_70, xf_70_0, xI_70_0, xf_70_1, xI_70_1, xf_70_2, xI_70_2, xf_70_3, xf_70_4, px_71, xA_71, px_72, xA_72, ni_ixL, ni_clL, ni_add, ni_mul, ni_lt, ni_le, ni_eq, ni_clamp, ni_ix, ni_lt0, ni_0le, ni_ltL, ni_Llt, ni_leL, ni_Lle, ni_eqL, ni_addL, ni_Ladd, ni_mulL, ni_Lmul, ni_subL, ni_sub, ni_Lsub, le_t, le_f, lt_t, lt_f, eq_f, il_lt, il_l0, il_g0, il_l1, il_g1, il_l2, il_g2, il_l3, il_g3, il_l4, il_g4, il_l5, il_g5, il_l7, il_g7, il_l8, il_g8, il_l9, il_g9, il_l10, il_g10, il_l15, il_g15, il_l20, il_g20, il_l23, il_g23, il_l24, il_g24, il_l60, il_g60, il_l100, il_g100, il_l999, il_g999, il_l1000, il_g1000, putR_lo, hset_lo, putR_lt hh, rd_hi, wr_hi, hs_1, hs_s, hs_o, uv_s, uv_o, pv_0, pv_n, i1_0, bs_0, bs_1, im_lt, im_ge, im_eq, ni_em, e, u1, u3, v1, v2]
  | m + 1, k, hk => by
    have hh := sim_146 hs
    have e := nodH_1 (h := h) (n := n) (fs := fs) (rc := nI rc) k
    obtain ⟨u1, u2, u3⟩ := nodH_n (h := h) (n := n) (fs := fs) (rc := rc) k
    obtain ⟨v1, v2, v3⟩ := nodH_a (h := h) (n := n) (fs := fs) (rc := nI rc) k
    obtain ⟨m1, m2, m3, m4, m5, m6, m7, m8, m9, m10, m11, m12⟩ := s_bk0 hs
    obtain ⟨-, -, -, -, -, b6, -⟩ := s_bk hs (j := 6) (by omega)
    obtain ⟨b1, b2, b3⟩ := b6 rfl
    have b4 := b3 rc hrc k (by omega)
    rw [← hfs k (by omega), Nat.mul_comm] at b4
    have l0 := nodH_lo (h := h) (n := n) (fs := fs) (rc := nI rc) (b := x.2 0) (by omega) k
    have l6 := nodH_lo (h := h) (n := n) (fs := fs) (rc := nI rc) (b := x.2 0 + 6) (by omega) k
    have hz := fun d Q => x_zero (d := d) (Q := Q) (r0 := r0) (x := x) (h := nodH h (nI rc) n fs k) (s := fs k) (by omega)
    have ha := aas25 (r := r0) (x := x) (h := mkV (nodH h (nI rc) n fs k) (fs k) (zv (fs k)) 0) (b := (nodH h (nI rc) n fs k).1) (by omega) (by rw [mkV_1]; omega) mkV_s.1
    rw [e] at ha
    have o1 := mkV_o (h := nodH h (nI rc) n fs k) (s := fs k) (v := zv (fs k)) (t := 0) (b := h.1 + 1) (by omega)
    rw [← l_newNode hs hrc hfc hn6 hr6 hfs m (k + 1) (by omega), e_38_24]
    have hN : nodH h (nI rc) n fs (k + 1) = hset (mkV (nodH h (nI rc) n fs k) (fs k) (zv (fs k)) 0) (h.1 + 1) k (.ref (nodH h (nI rc) n fs k).1) := rfl
    rw [hN]
    simp (disch := first | exact c1_i _ | exact c1_r _ | exact c1_n | exact c1_m | omega | assumption | (simp only [hn_1, hs_1, hC_1]; omega) | (apply ac_l; omega) | (apply ac_r; omega) | decide | exact Or.inl rfl) only [e_38_25, e_38_25n, e_38_26, e_38_29, e_38_30, e_38_33, e_38_33n, e_38_34, e_38_37, e_38_38, e_38_38n, e_38_39, e_38_42, e_38_43, e_38_45, e_38_46, e_38_47, e_38_48, e_38_49, e_38_52, e_38_53, e_38_56, Option.toList_some, Option.toList_none, List.cons_append, List.nil_append, catS_cons, catS_nil, cat_int, cat_long, cat_ref, cat_null, c1_i, c1_r, c1_n, c1_m, true_and, and_true, and_self, putR_1, putR_u, eq_self, Nat.reduceLT, Nat.reduceLeDiff, Nat.reduceAdd, Nat.reduceEqDiff, vk_i, vk_l, vk_r, vk_n, vk_0, vk_1, if_true, if_false, not_true_eq_false, not_false_eq_true, false_and, and_false, ne_eq, true_or, or_true, ite_not, reduceCtorEq, putX_1, putX_u, putX_hi, hset_Xhi, px_5, xf_5_0, xf_5_1, xI_5_1, xf_5_2, xR_0, xf_5_3, xI_5_3, xf_5_4, xI_5_4, xf_5_5, xf_5_6, xI_5_6, xf_5_7, xf_5_8, xf_5_9, xf_5_10, xf_5_11, xf_5_12, xf_5_13, xf_5_14, xf_5_15, xI_5_15, px_6, xA_6, px_18, xA_18, px_19, xf_19_0, xI_19_0, xf_19_1, xR_1, xf_19_2, xI_19_2, px_20, xf_20_0, xI_20_0, xf_20_1, xR_2, xf_20_2, xI_20_2, px_21, xf_21_0, xI_21_0, xf_21_1, xR_3, xf_21_2, xI_21_2, px_22, xf_22_0, xI_22_0, xf_22_1, xR_4, xf_22_2, xI_22_2, px_23, xf_23_0, xI_23_0, xf_23_1, xR_5, xf_23_2, xI_23_2, px_24, xf_24_0, xI_24_0, xf_24_1, xR_6, xf_24_2, xI_24_2, px_25, xf_25_0, xI_25_0, xf_25_1, xI_25_1, xf_25_2, xf_25_3, xI_25_3, xf_25_4, xf_25_5, xf_25_6, px_26, xA_26, px_27, px_28, xA_28, px_29, xA_29, px_30, xA_30, px_31, xA_31, px_32, xA_32, px_33, xA_33, px_34, xA_34, px_35, xA_35, px_36, xA_36, px_37, xA_37, px_38, xA_38, px_39, xA_39, px_40, xA_40, px_41, xA_41, px_42, xA_42, px_43, xA_43, px_44, xA_44, px_45, xA_45, px_46, xA_46, px_47, xA_47, px_48, xA_48, px_49, xA_49, px_50, xA_50, px_51, xA_51, px_52, xA_52, px_53, xA_53, px_54, xA_54, px_55, xA_55, px_56, xA_56, px_57, xA_57, px_58, xA_58, px_59, xA_59, px_60, xA_60, px_61, xA_61, px_62, xA_62, px_63, xA_63, px_64, xA_64, px_65, xA_65, px_66, xA_66, px_67, xA_67, px_68, xA_68, px_69, xA_69, px_70, xf_70_0, xI_70_0, xf_70_1, xI_70_1, xf_70_2, xI_70_2, xf_70_3, xf_70_4, px_71, xA_71, px_72, xA_72, ni_ixL, ni_clL, ni_add, ni_mul, ni_lt, ni_le, ni_eq, ni_clamp, ni_ix, ni_lt0, ni_0le, ni_ltL, ni_Llt, ni_leL, ni_Lle, ni_eqL, ni_addL, ni_Ladd, ni_mulL, ni_Lmul, ni_subL, ni_sub, ni_Lsub, le_t, le_f, lt_t, lt_f, eq_f, il_lt, il_l0, il_g0, il_l1, il_g1, il_l2, il_g2, il_l3, il_g3, il_l4, il_g4, il_l5, il_g5, il_l7, il_g7, il_l8, il_g8, il_l9, il_g9, il_l10, il_g10, il_l15, il_g15, il_l20, il_g20, il_l23, il_g23, il_l24, il_g24, il_l60, il_g60, il_l100, il_g100, il_l999, il_g999, il_l1000, il_g1000, putR_lo, hset_lo, putR_lt hh, rd_hi, wr_hi, hs_1, hs_s, hs_o, uv_s, uv_o, pv_0, pv_n, i1_0, bs_0, bs_1, im_lt, im_ge, im_eq, ni_em, e, u1, u3, v1, v2, rd_bk m1, rd_bk0 m1, l0, l6, m3, m9, b1, b2, b4, hz, ha, o1, mkV_1]
theorem x_newNode (hw : World K tb g r x h) (hrc : rc < (g.2.2.2.2.1 2)) (hn : n = (g.2.2.2.2.2 8) rc) (hfs : ∀ i, i < n → fs i = (r.2.2.1 80) (6 * rc + i)) : Go (d + 4) 38 0 [.ref h.1, .int (nI rc), .ref (x.2 0), mk0] [] (putR r0 (putX x (hnew h 7 2 (fun k => dflF (fkd (1000 * 7 + k)))))) Q = Q none (putR r0 (putX x (nodH h (nI rc) n fs n))) := by
  have hh := sim_146 hw.1
  obtain ⟨v1, v2⟩ := w_rn hw
  obtain ⟨-, -, -, bk4, -⟩ := w_book hw
  obtain ⟨f1, f2, f3⟩ := bk4 rc hrc
  obtain ⟨m1, m2, m3, m4, m5, m6, m7, m8, m9, m10, m11, m12⟩ := s_bk0 hw.1
  obtain ⟨-, -, -, -, b5, -⟩ := s_bk hw.1 (j := 5) (by omega)
  obtain ⟨b1, b2, b3⟩ := b5 rfl
  have b4 := b3 rc hrc
  rw [← hn] at b4
  have e := l_newNode (d := d) (r0 := r0) (Q := Q) hw.1 hrc hn (by omega) v2 hfs n 0 (by omega)
  have e0 : nodH h (nI rc) n fs 0 = hset (hnew (hset (hnew h 7 2 (fun k => dflF (fkd (1000 * 7 + k)))) h.1 0 (.int (nI rc))) 25 n (fun _ => .null)) h.1 1 (.ref (h.1 + 1)) := rfl
  rw [e0] at e
  refine Eq.trans ?_ e
  have o1 : ∀ f : Nat → Value, (hset (hnew h 7 2 f) h.1 0 (.int (nI rc))).2.2 (x.2 0 + 5) = h.2.2 (x.2 0 + 5) := fun f => by rw [hs_o _ _ (by omega), hn_o _ _ _ (by omega)]
  have o2 : ∀ f : Nat → Value, (hset (hnew h 7 2 f) h.1 0 (.int (nI rc))).2.2 (x.2 0) = h.2.2 (x.2 0) := fun f => by rw [hs_o _ _ (by omega), hn_o _ _ _ (by omega)]
  simp (disch := first | exact c1_i _ | exact c1_r _ | exact c1_n | exact c1_m | omega | assumption | (simp only [hn_1, hs_1, hC_1]; omega) | (apply ac_l; omega) | (apply ac_r; omega) | decide | exact Or.inl rfl) only [e_38_0, e_38_0n, e_38_1, e_38_4, e_38_4n, e_38_5, e_38_6, e_38_9, e_38_9n, e_38_10, e_38_10n, e_38_11, e_38_14, e_38_15, e_38_16, e_38_19, e_38_22, e_38_23, Option.toList_some, Option.toList_none, List.cons_append, List.nil_append, catS_cons, catS_nil, cat_int, cat_long, cat_ref, cat_null, c1_i, c1_r, c1_n, c1_m, true_and, and_true, and_self, putR_1, putR_u, eq_self, Nat.reduceLT, Nat.reduceLeDiff, Nat.reduceAdd, Nat.reduceEqDiff, vk_i, vk_l, vk_r, vk_n, vk_0, vk_1, if_true, if_false, not_true_eq_false, not_false_eq_true, false_and, and_false, ne_eq, true_or, or_true, ite_not, reduceCtorEq, putX_1, putX_u, putX_hi, hset_Xhi, px_5, xf_5_0, xf_5_1, xI_5_1, xf_5_2, xR_0, xf_5_3, xI_5_3, xf_5_4, xI_5_4, xf_5_5, xf_5_6, xI_5_6, xf_5_7, xf_5_8, xf_5_9, xf_5_10, xf_5_11, xf_5_12, xf_5_13, xf_5_14, xf_5_15, xI_5_15, px_6, xA_6, px_18, xA_18, px_19, xf_19_0, xI_19_0, xf_19_1, xR_1, xf_19_2, xI_19_2, px_20, xf_20_0, xI_20_0, xf_20_1, xR_2, xf_20_2, xI_20_2, px_21, xf_21_0, xI_21_0, xf_21_1, xR_3, xf_21_2, xI_21_2, px_22, xf_22_0, xI_22_0, xf_22_1, xR_4, xf_22_2, xI_22_2, px_23, xf_23_0, xI_23_0, xf_23_1, xR_5, xf_23_2, xI_23_2, px_24, xf_24_0, xI_24_0, xf_24_1, xR_6, xf_24_2, xI_24_2, px_25, xf_25_0, xI_25_0, xf_25_1, xI_25_1, xf_25_2, xf_25_3, xI_25_3, xf_25_4, xf_25_5, xf_25_6, px_26, xA_26, px_27, px_28, xA_28, px_29, xA_29, px_30, xA_30, px_31, xA_31, px_32, xA_32, px_33, xA_33, px_34, xA_34, px_35, xA_35, px_36, xA_36, px_37, xA_37, px_38, xA_38, px_39, xA_39, px_40, xA_40, px_41, xA_41, px_42, xA_42, px_43, xA_43, px_44, xA_44, px_45, xA_45, px_46, xA_46, px_47, xA_47, px_48, xA_48, px_49, xA_49, px_50, xA_50, px_51, xA_51, px_52, xA_52, px_53, xA_53, px_54, xA_54, px_55, xA_55, px_56, xA_56, px_57, xA_57, px_58, xA_58, px_59, xA_59, px_60, xA_60, px_61, xA_61, px_62, xA_62, px_63, xA_63, px_64, xA_64, px_65, xA_65, px_66, xA_66, px_67, xA_67, px_68, xA_68, px_69, xA_69, px_70, xf_70_0, xI_70_0, xf_70_1, xI_70_1, xf_70_2, xI_70_2, xf_70_3, xf_70_4, px_71, xA_71, px_72, xA_72, ni_ixL, ni_clL, ni_add, ni_mul, ni_lt, ni_le, ni_eq, ni_clamp, ni_ix, ni_lt0, ni_0le, ni_ltL, ni_Llt, ni_leL, ni_Lle, ni_eqL, ni_addL, ni_Ladd, ni_mulL, ni_Lmul, ni_subL, ni_sub, ni_Lsub, le_t, le_f, lt_t, lt_f, eq_f, il_lt, il_l0, il_g0, il_l1, il_g1, il_l2, il_g2, il_l3, il_g3, il_l4, il_g4, il_l5, il_g5, il_l7, il_g7, il_l8, il_g8, il_l9, il_g9, il_l10, il_g10, il_l15, il_g15, il_l20, il_g20, il_l23, il_g23, il_l24, il_g24, il_l60, il_g60, il_l100, il_g100, il_l999, il_g999, il_l1000, il_g1000, putR_lo, hset_lo, putR_lt hh, rd_hi, wr_hi, hs_1, hs_s, hs_o, uv_s, uv_o, pv_0, pv_n, i1_0, bs_0, bs_1, im_lt, im_ge, im_eq, ni_em, nw_hi, hn_1, hn_s, hn_o, ni_Ll0, rd_bk m1, rd_bk0 m1, m3, m8, b1, b2, b4, o1, o2]
  rfl
end
