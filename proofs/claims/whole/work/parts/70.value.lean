/-! what a Value, a row of bytes, a tree is, once it is made -/
def gP (g : gS) (a k : Nat) (w : Int32 × Int64 × Nat) (w2 : Nat × (Nat → Int32)) : gS := gR (gA (gV g a w) a w2) a (k, 0)
section
variable {K : Nat → pcell} {tb : Nat} {g g' g0 g1 : gS} {r r' r0 : rS} {x x' x1 : xS} {h h' h1 : pheap} {d : Nat} {Q : Option Value → pheap → Prop} {a n k : Nat} {w : Int32 × Int64 × Nat} {w2 : Nat × (Nat → Int32)}
theorem gP_ro : (gP g a k w w2).2.2.2.1 a = (k, 0) := gR_s _ _ _
theorem gP_rn {b : Nat} (hb : b ≠ a) : (gP g a k w w2).2.2.2.1 b = g.2.2.2.1 b := gR_n _ _ hb
theorem gP_va : (gP g a k w w2).2.1 a = w := upN_s _ _ _
theorem gP_vn {b : Nat} (hb : b ≠ a) : (gP g a k w w2).2.1 b = g.2.1 b := upN_n _ _ hb
theorem gP_ar : (gP g a k w w2).2.2.1 a = w2 := upN_s _ _ _
theorem gP_an {b : Nat} (hb : b ≠ a) : (gP g a k w w2).2.2.1 b = g.2.2.1 b := upN_n _ _ hb
theorem VR_p {num : Nat → Int64} {len letters : Nat → Int32} {p cell : Nat} {s : Int32} (hp : p ≠ a) (ht : (g.2.1 p).2.2 ≠ 0 → (g.2.1 p).2.2 ≠ a) (hv : VR g num len letters p s cell) : VR (gP g a k w w2) num len letters p s cell := by
  unfold VR at hv ⊢
  rw [gP_vn hp]
  obtain ⟨v1, v2, v3⟩ := hv
  refine ⟨v1, v2, fun h4 => ?_⟩
  rcases v3 h4 with e | ⟨e1, e2⟩
  · exact Or.inl e
  · rw [gP_an (ht e1)]
    exact Or.inr ⟨e1, e2⟩
theorem rowB_p {p n : Nat} {f : Nat → Int32} (hp : p ≠ a) (hv : rowB g p n f) : rowB (gP g a k w w2) p n f := by
  unfold rowB at hv ⊢
  rw [gP_an hp]
  exact hv
theorem sim_prom (hs : Sim K g r x h) (ha : g.2.2.2.1 a = (0, 0)) (h1 : 146 ≤ a) (h2 : a < h.1) (hk : 1 ≤ k ∧ k ≤ 3) (hc1 : k = 1 → cVal w (h.2.2 a) ∧ (w.2.2 ≠ 0 → okP g.2.2.2.1 h.1 w.2.2 (2, 0))) (hc2 : k = 2 → cRow 22 w2 (h.2.2 a)) (hc3 : k = 3 → cRow 20 w2 (h.2.2 a)) : Sim K (gP g a k w w2) r x h := by
  obtain ⟨⟨a1, a2, a3, a4⟩, pf, hC, bk, vr, kp, ft, fl, fw, fx⟩ := hs
  have hne : ∀ p c, okP g.2.2.2.1 h.1 p c → c.1 ≠ 0 → p ≠ a := fun p c ⟨_, _, e⟩ hc z => by
    rw [z, ha] at e
    rw [← e] at hc
    exact hc rfl
  have htr : ∀ p c, okP g.2.2.2.1 h.1 p c → c.1 ≠ 0 → okP (gP g a k w w2).2.2.2.1 h.1 p c := fun p c ho hc => ⟨ho.1, ho.2.1, by rw [gP_rn (hne p c ho hc)]; exact ho.2.2⟩
  have href : ∀ p c, Ref0 g x.2 p c → p ≠ a := fun p c hr => hne p c (pf.1 p c hr) (ref_c0 hr)
  have hvt : ∀ p, Ref0 g x.2 p (1, 0) → (g.2.1 p).2.2 ≠ 0 → (g.2.1 p).2.2 ≠ a := fun p hr ht => hne _ _ (pf.2.1 p (by rw [(pf.1 _ _ hr).2.2]) ht) (fun z => Nat.noConfusion z)
  refine ⟨⟨a1, a2, a3, fun b hb => ?_⟩, ⟨fun p c hp => htr p c (pf.1 p c hp) (ref_c0 (g := g) hp), fun b b1 b2 => ?_, fun b hb => ?_⟩, fun b b1 b2 => ?_, bk, ⟨fun j hj => ?_, fun m hm j hj => ?_, fun c hc hv => ?_⟩, fun c hc => ?_, ft, fl, fw, fx⟩
  · rw [gP_rn (by omega)]
    exact a4 b hb
  · by_cases e : b = a
    · subst e
      rw [gP_ro] at b1
      rw [gP_va] at b2 ⊢
      exact htr _ _ ((hc1 b1).2 b2) (fun z => Nat.noConfusion z)
    · rw [gP_rn e] at b1
      rw [gP_vn e] at b2 ⊢
      exact htr _ _ (pf.2.1 b b1 b2) (fun z => Nat.noConfusion z)
  · by_cases e : b = a
    · subst e
      rw [gP_ro] at hb
      have hb' : 4 ≤ k := hb
      omega
    · rw [gP_rn e] at hb ⊢
      exact pf.2.2 b hb
  · by_cases e : b = a
    · subst e
      obtain e1 | e2 | e3 : k = 1 ∨ k = 2 ∨ k = 3 := by omega
      · refine cell_1 (by rw [gP_ro]; exact e1) ?_
        rw [gP_va]
        exact (hc1 e1).1
      · refine cell_2 (by rw [gP_ro]; exact e2) ?_
        rw [gP_ar]
        exact hc2 e2
      · refine cell_3 (by rw [gP_ro]; exact e3) ?_
        rw [gP_ar]
        exact hc3 e3
    · exact cell_ro (g := g) rfl (gP_vn e) (gP_an e) (gP_rn e) rfl (hC b b1 b2)
  · have hr : Ref0 g x.2 ((g.1 1) j) (1, 0) := ref_hnd hj
    exact VR_p (href _ _ hr) (hvt _ hr) (vr.1 j hj)
  · have hr : Ref0 g x.2 ((g.2.2.2.2.2 7) (6 * m + j)) (1, 0) := ref_fld hm hj
    exact VR_p (href _ _ hr) (hvt _ hr) (vr.2.1 m hm j hj)
  · have hr : Ref0 g x.2 ((g.2.2.2.2.2 21) c) (1, 0) := ref_vl hc hv
    exact VR_p (href _ _ hr) (hvt _ hr) (vr.2.2 c hc hv)
  · obtain ⟨k1, k2, k3, k4, k5, k6, k7⟩ := kp c hc
    refine ⟨k1, fun z => rowB_p (href _ _ (ref_rq (x2 := x.2) hc z)) (k2 z), k3, fun z => rowB_p (href _ _ (ref_sh (x2 := x.2) hc z)) (k4 z), k5, k6, fun z => ?_⟩
    have e : (gP g a k w w2).2.2.1 ((g.2.2.2.2.2 22) c) = g.2.2.1 ((g.2.2.2.2.2 22) c) := gP_an (href _ _ (ref_tr (x2 := x.2) hc z))
    show ((gP g a k w w2).2.2.1 ((g.2.2.2.2.2 22) c)).1 = _ ∧ ∀ k', _ → ((gP g a k w w2).2.2.1 ((g.2.2.2.2.2 22) c)).2 k' = _
    rw [e]
    exact k7 z
theorem w_prom (hw : World K tb g r x h) (ha : g.2.2.2.1 a = (0, 0)) (h1 : 146 ≤ a) (h2 : a < h.1) (hk : 1 ≤ k ∧ k ≤ 3) (hc1 : k = 1 → cVal w (h.2.2 a) ∧ (w.2.2 ≠ 0 → okP g.2.2.2.1 h.1 w.2.2 (2, 0))) (hc2 : k = 2 → cRow 22 w2 (h.2.2 a)) (hc3 : k = 3 → cRow 20 w2 (h.2.2 a)) : World K tb (gP g a k w w2) r x h := ⟨sim_prom hw.1 ha h1 h2 hk hc1 hc2 hc3, hw.2⟩
/-! a new Value -/
def mkV (h : pheap) (s : Int32) (v : Int64) (t : Nat) : pheap := hset (hset (hset (hnew h 9 3 (fun k => dflF (fkd (1000 * 9 + k)))) h.1 0 (.int s)) h.1 1 (.long v)) h.1 2 (pv t)
theorem mkV_1 {s : Int32} {v : Int64} {t : Nat} : (mkV h s v t).1 = h.1 + 1 := rfl
theorem mkV_u {s : Int32} {v : Int64} {t : Nat} : (mkV h s v t).2.1 = h.2.1 + 3 := rfl
theorem mkV_o {s : Int32} {v : Int64} {t b : Nat} (hb : b ≠ h.1) : (mkV h s v t).2.2 b = h.2.2 b := by
  unfold mkV
  rw [hs_o _ _ hb, hs_o _ _ hb, hs_o _ _ hb, hn_o _ _ _ hb]
theorem mkV_s {s : Int32} {v : Int64} {t : Nat} : cVal (s, v, t) ((mkV h s v t).2.2 h.1) := by
  unfold mkV
  simp only [hs_s, hn_s]
  exact ⟨rfl, rfl, rfl, rfl⟩
theorem x_newValue (hh : 146 ≤ h.1) {s : Int32} {v : Int64} {t : Nat} : Go (d + 2) 40 0 [.ref h.1, .int s, .long v, mk0, pv t] [] (putR r0 (putX x (hnew h 9 3 (fun k => dflF (fkd (1000 * 9 + k)))))) Q = Q none (putR r0 (putX x (mkV h s v t))) := by
  unfold mkV
  by_cases hc : t = 0
  · subst hc
    simp (disch := first | exact c1_i _ | exact c1_r _ | exact c1_n | exact c1_m | omega | assumption | (simp only [hn_1, hs_1, hC_1]; omega) | (apply ac_l; omega) | (apply ac_r; omega) | decide | exact Or.inl rfl) only [e_40_0, e_40_0n, e_40_1, e_40_4, e_40_4n, e_40_5, e_40_6, e_40_9, e_40_9n, e_40_10, e_40_11, e_40_14, e_40_14n, e_40_15, e_40_15n, e_40_17, e_40_20, Option.toList_some, Option.toList_none, List.cons_append, List.nil_append, catS_cons, catS_nil, cat_int, cat_long, cat_ref, cat_null, c1_i, c1_r, c1_n, c1_m, true_and, and_true, and_self, putR_1, putR_u, eq_self, Nat.reduceLT, Nat.reduceLeDiff, Nat.reduceAdd, Nat.reduceEqDiff, vk_i, vk_l, vk_r, vk_n, vk_0, vk_1, if_true, if_false, not_true_eq_false, not_false_eq_true, false_and, and_false, ne_eq, true_or, or_true, ite_not, reduceCtorEq, putX_1, putX_u, putX_hi, hset_Xhi, px_5, xf_5_0, xf_5_1, xI_5_1, xf_5_2, xR_0, xf_5_3, xI_5_3, xf_5_4, xI_5_4, xf_5_5, xf_5_6, xI_5_6, xf_5_7, xf_5_8, xf_5_9, xf_5_10, xf_5_11, xf_5_12, xf_5_13, xf_5_14, xf_5_15, xI_5_15, px_6, xA_6, px_18, xA_18, px_19, xf_19_0, xI_19_0, xf_19_1, xR_1, xf_19_2, xI_19_2, px_20, xf_20_0, xI_20_0, xf_20_1, xR_2, xf_20_2, xI_20_2, px_21, xf_21_0, xI_21_0, xf_21_1, xR_3, xf_21_2, xI_21_2, px_22, xf_22_0, xI_22_0, xf_22_1, xR_4, xf_22_2, xI_22_2, px_23, xf_23_0, xI_23_0, xf_23_1, xR_5, xf_23_2, xI_23_2, px_24, xf_24_0, xI_24_0, xf_24_1, xR_6, xf_24_2, xI_24_2, px_25, xf_25_0, xI_25_0, xf_25_1, xI_25_1, xf_25_2, xf_25_3, xI_25_3, xf_25_4, xf_25_5, xf_25_6, px_26, xA_26, px_27, px_28, xA_28, px_29, xA_29, px_30, xA_30, px_31, xA_31, px_32, xA_32, px_33, xA_33, px_34, xA_34, px_35, xA_35, px_36, xA_36, px_37, xA_37, px_38, xA_38, px_39, xA_39, px_40, xA_40, px_41, xA_41, px_42, xA_42, px_43, xA_43, px_44, xA_44, px_45, xA_45, px_46, xA_46, px_47, xA_47, px_48, xA_48, px_49, xA_49, px_50, xA_50, px_51, xA_51, px_52, xA_52, px_53, xA_53, px_54, xA_54, px_55, xA_55, px_56, xA_56, px_57, xA_57, px_58, xA_58, px_59, xA_59, px_60, xA_60, px_61, xA_61, px_62, xA_62, px_63, xA_63, px_64, xA_64, px_65, xA_65, px_66, xA_66, px_67, xA_67, px_68, xA_68, px_69, xA_69, px_70, xf_70_0, xI_70_0, xf_70_1, xI_70_1, xf_70_2, xI_70_2, xf_70_3, xf_70_4, px_71, xA_71, px_72, xA_72, ni_ixL, ni_clL, ni_add, ni_mul, ni_lt, ni_le, ni_eq, ni_clamp, ni_ix, ni_lt0, ni_0le, ni_ltL, ni_Llt, ni_leL, ni_Lle, ni_eqL, ni_addL, ni_Ladd, ni_mulL, ni_Lmul, ni_subL, ni_sub, ni_Lsub, le_t, le_f, lt_t, lt_f, eq_f, il_lt, il_l0, il_g0, il_l1, il_g1, il_l2, il_g2, il_l3, il_g3, il_l4, il_g4, il_l5, il_g5, il_l7, il_g7, il_l8, il_g8, il_l9, il_g9, il_l10, il_g10, il_l15, il_g15, il_l20, il_g20, il_l23, il_g23, il_l24, il_g24, il_l60, il_g60, il_l100, il_g100, il_l999, il_g999, il_l1000, il_g1000, putR_lo, hset_lo, putR_lt hh, rd_hi, wr_hi, hs_1, hs_s, hs_o, uv_s, uv_o, pv_0, pv_n, i1_0, bs_0, bs_1, im_lt, im_ge, im_eq, ni_em, nw_hi, hn_1, hn_s, hn_o, ni_Ll0]
  · simp (disch := first | exact c1_i _ | exact c1_r _ | exact c1_n | exact c1_m | omega | assumption | (simp only [hn_1, hs_1, hC_1]; omega) | (apply ac_l; omega) | (apply ac_r; omega) | decide | exact Or.inl rfl) only [e_40_0, e_40_0n, e_40_1, e_40_4, e_40_4n, e_40_5, e_40_6, e_40_9, e_40_9n, e_40_10, e_40_11, e_40_14, e_40_14n, e_40_15, e_40_15n, e_40_17, e_40_20, Option.toList_some, Option.toList_none, List.cons_append, List.nil_append, catS_cons, catS_nil, cat_int, cat_long, cat_ref, cat_null, c1_i, c1_r, c1_n, c1_m, true_and, and_true, and_self, putR_1, putR_u, eq_self, Nat.reduceLT, Nat.reduceLeDiff, Nat.reduceAdd, Nat.reduceEqDiff, vk_i, vk_l, vk_r, vk_n, vk_0, vk_1, if_true, if_false, not_true_eq_false, not_false_eq_true, false_and, and_false, ne_eq, true_or, or_true, ite_not, reduceCtorEq, putX_1, putX_u, putX_hi, hset_Xhi, px_5, xf_5_0, xf_5_1, xI_5_1, xf_5_2, xR_0, xf_5_3, xI_5_3, xf_5_4, xI_5_4, xf_5_5, xf_5_6, xI_5_6, xf_5_7, xf_5_8, xf_5_9, xf_5_10, xf_5_11, xf_5_12, xf_5_13, xf_5_14, xf_5_15, xI_5_15, px_6, xA_6, px_18, xA_18, px_19, xf_19_0, xI_19_0, xf_19_1, xR_1, xf_19_2, xI_19_2, px_20, xf_20_0, xI_20_0, xf_20_1, xR_2, xf_20_2, xI_20_2, px_21, xf_21_0, xI_21_0, xf_21_1, xR_3, xf_21_2, xI_21_2, px_22, xf_22_0, xI_22_0, xf_22_1, xR_4, xf_22_2, xI_22_2, px_23, xf_23_0, xI_23_0, xf_23_1, xR_5, xf_23_2, xI_23_2, px_24, xf_24_0, xI_24_0, xf_24_1, xR_6, xf_24_2, xI_24_2, px_25, xf_25_0, xI_25_0, xf_25_1, xI_25_1, xf_25_2, xf_25_3, xI_25_3, xf_25_4, xf_25_5, xf_25_6, px_26, xA_26, px_27, px_28, xA_28, px_29, xA_29, px_30, xA_30, px_31, xA_31, px_32, xA_32, px_33, xA_33, px_34, xA_34, px_35, xA_35, px_36, xA_36, px_37, xA_37, px_38, xA_38, px_39, xA_39, px_40, xA_40, px_41, xA_41, px_42, xA_42, px_43, xA_43, px_44, xA_44, px_45, xA_45, px_46, xA_46, px_47, xA_47, px_48, xA_48, px_49, xA_49, px_50, xA_50, px_51, xA_51, px_52, xA_52, px_53, xA_53, px_54, xA_54, px_55, xA_55, px_56, xA_56, px_57, xA_57, px_58, xA_58, px_59, xA_59, px_60, xA_60, px_61, xA_61, px_62, xA_62, px_63, xA_63, px_64, xA_64, px_65, xA_65, px_66, xA_66, px_67, xA_67, px_68, xA_68, px_69, xA_69, px_70, xf_70_0, xI_70_0, xf_70_1, xI_70_1, xf_70_2, xI_70_2, xf_70_3, xf_70_4, px_71, xA_71, px_72, xA_72, ni_ixL, ni_clL, ni_add, ni_mul, ni_lt, ni_le, ni_eq, ni_clamp, ni_ix, ni_lt0, ni_0le, ni_ltL, ni_Llt, ni_leL, ni_Lle, ni_eqL, ni_addL, ni_Ladd, ni_mulL, ni_Lmul, ni_subL, ni_sub, ni_Lsub, le_t, le_f, lt_t, lt_f, eq_f, il_lt, il_l0, il_g0, il_l1, il_g1, il_l2, il_g2, il_l3, il_g3, il_l4, il_g4, il_l5, il_g5, il_l7, il_g7, il_l8, il_g8, il_l9, il_g9, il_l10, il_g10, il_l15, il_g15, il_l20, il_g20, il_l23, il_g23, il_l24, il_g24, il_l60, il_g60, il_l100, il_g100, il_l999, il_g999, il_l1000, il_g1000, putR_lo, hset_lo, putR_lt hh, rd_hi, wr_hi, hs_1, hs_s, hs_o, uv_s, uv_o, pv_0, pv_n, i1_0, bs_0, bs_1, im_lt, im_ge, im_eq, ni_em, nw_hi, hn_1, hn_s, hn_o, ni_Ll0, pv_n hc]
/-- a Value is made: what is known of it -/
def gW (g : gS) (a : Nat) (s : Int32) (v : Int64) (t : Nat) : gS := gP g a 1 (s, v, t) (0, fun _ => 0)
theorem w_mkV (hw : World K tb g r x h) {s : Int32} {v : Int64} {t : Nat} (ht : t ≠ 0 → okP g.2.2.2.1 h.1 t (2, 0)) : World K tb (gW g h.1 s v t) r x (mkV h s v t) := by
  have hh := sim_146 hw.1
  have t0 := sim_top hw.1 (Nat.le_refl h.1)
  have hs1 : Sim K g r x (mkV h s v t) := sim_junk (sim_junk (sim_junk (sim_new hw.1 _ _ _) t0 hh _ _) t0 hh _ _) t0 hh _ _
  exact w_prom ⟨hs1, hw.2⟩ t0 hh (by rw [mkV_1]; omega) ⟨by omega, by omega⟩ (fun _ => ⟨mkV_s, fun z => by obtain ⟨e1, e2, e3⟩ := ht z; exact ⟨e1, Nat.lt_succ_of_lt e2, e3⟩⟩) (fun z => by omega) (fun z => by omega)
theorem i_ltn {a b : Int32} (h : b ≤ a) : (a < b) = False := eq_false (fun z => by
  rw [Int32.lt_iff_toInt_lt] at z
  rw [Int32.le_iff_toInt_le] at h
  omega)
theorem i_lty {a b : Int32} (h : ¬ b ≤ a) : (a < b) = True := eq_true (by
  rw [Int32.lt_iff_toInt_lt]
  rw [Int32.le_iff_toInt_le] at h
  omega)
/-- zero of a sort -/
def zv (s : Int32) : Int64 := if 10 ≤ s then -1 else 0
theorem x_zero (hh : 146 ≤ h.1) {s : Int32} : Go (d + 3) 39 0 [.int s] [] (putR r0 (putX x h)) Q = Q (some (.ref h.1)) (putR r0 (putX x (mkV h s (zv s) 0))) := by
  have hv := fun d Q v => x_newValue (d := d) (Q := Q) (r0 := r0) (x := x) (h := h) (s := s) (v := v) (t := 0) hh
  simp only [pv_0] at hv
  unfold zv
  by_cases h10 : 10 ≤ s
  · simp (disch := first | exact c1_i _ | exact c1_r _ | exact c1_n | exact c1_m | omega | assumption | (simp only [hn_1, hs_1, hC_1]; omega) | (apply ac_l; omega) | (apply ac_r; omega) | decide | exact Or.inl rfl) only [e_39_0, e_39_3, e_39_4, e_39_5, e_39_6, e_39_8, e_39_11, e_39_14, e_39_17, e_39_18, e_39_19, e_39_22, e_39_22n, Option.toList_some, Option.toList_none, List.cons_append, List.nil_append, catS_cons, catS_nil, cat_int, cat_long, cat_ref, cat_null, c1_i, c1_r, c1_n, c1_m, true_and, and_true, and_self, putR_1, putR_u, eq_self, Nat.reduceLT, Nat.reduceLeDiff, Nat.reduceAdd, Nat.reduceEqDiff, vk_i, vk_l, vk_r, vk_n, vk_0, vk_1, if_true, if_false, not_true_eq_false, not_false_eq_true, false_and, and_false, ne_eq, true_or, or_true, ite_not, reduceCtorEq, putX_1, putX_u, putX_hi, hset_Xhi, px_5, xf_5_0, xf_5_1, xI_5_1, xf_5_2, xR_0, xf_5_3, xI_5_3, xf_5_4, xI_5_4, xf_5_5, xf_5_6, xI_5_6, xf_5_7, xf_5_8, xf_5_9, xf_5_10, xf_5_11, xf_5_12, xf_5_13, xf_5_14, xf_5_15, xI_5_15, px_6, xA_6, px_18, xA_18, px_19, xf_19_0, xI_19_0, xf_19_1, xR_1, xf_19_2, xI_19_2, px_20, xf_20_0, xI_20_0, xf_20_1, xR_2, xf_20_2, xI_20_2, px_21, xf_21_0, xI_21_0, xf_21_1, xR_3, xf_21_2, xI_21_2, px_22, xf_22_0, xI_22_0, xf_22_1, xR_4, xf_22_2, xI_22_2, px_23, xf_23_0, xI_23_0, xf_23_1, xR_5, xf_23_2, xI_23_2, px_24, xf_24_0, xI_24_0, xf_24_1, xR_6, xf_24_2, xI_24_2, px_25, xf_25_0, xI_25_0, xf_25_1, xI_25_1, xf_25_2, xf_25_3, xI_25_3, xf_25_4, xf_25_5, xf_25_6, px_26, xA_26, px_27, px_28, xA_28, px_29, xA_29, px_30, xA_30, px_31, xA_31, px_32, xA_32, px_33, xA_33, px_34, xA_34, px_35, xA_35, px_36, xA_36, px_37, xA_37, px_38, xA_38, px_39, xA_39, px_40, xA_40, px_41, xA_41, px_42, xA_42, px_43, xA_43, px_44, xA_44, px_45, xA_45, px_46, xA_46, px_47, xA_47, px_48, xA_48, px_49, xA_49, px_50, xA_50, px_51, xA_51, px_52, xA_52, px_53, xA_53, px_54, xA_54, px_55, xA_55, px_56, xA_56, px_57, xA_57, px_58, xA_58, px_59, xA_59, px_60, xA_60, px_61, xA_61, px_62, xA_62, px_63, xA_63, px_64, xA_64, px_65, xA_65, px_66, xA_66, px_67, xA_67, px_68, xA_68, px_69, xA_69, px_70, xf_70_0, xI_70_0, xf_70_1, xI_70_1, xf_70_2, xI_70_2, xf_70_3, xf_70_4, px_71, xA_71, px_72, xA_72, ni_ixL, ni_clL, ni_add, ni_mul, ni_lt, ni_le, ni_eq, ni_clamp, ni_ix, ni_lt0, ni_0le, ni_ltL, ni_Llt, ni_leL, ni_Lle, ni_eqL, ni_addL, ni_Ladd, ni_mulL, ni_Lmul, ni_subL, ni_sub, ni_Lsub, le_t, le_f, lt_t, lt_f, eq_f, il_lt, il_l0, il_g0, il_l1, il_g1, il_l2, il_g2, il_l3, il_g3, il_l4, il_g4, il_l5, il_g5, il_l7, il_g7, il_l8, il_g8, il_l9, il_g9, il_l10, il_g10, il_l15, il_g15, il_l20, il_g20, il_l23, il_g23, il_l24, il_g24, il_l60, il_g60, il_l100, il_g100, il_l999, il_g999, il_l1000, il_g1000, putR_lo, hset_lo, putR_lt hh, rd_hi, wr_hi, hs_1, hs_s, hs_o, uv_s, uv_o, pv_0, pv_n, i1_0, bs_0, bs_1, im_lt, im_ge, im_eq, ni_em, nw_hi, hn_1, hn_s, hn_o, ni_Ll0, hv, h10, i_ltn h10]
  · simp (disch := first | exact c1_i _ | exact c1_r _ | exact c1_n | exact c1_m | omega | assumption | (simp only [hn_1, hs_1, hC_1]; omega) | (apply ac_l; omega) | (apply ac_r; omega) | decide | exact Or.inl rfl) only [e_39_0, e_39_3, e_39_4, e_39_5, e_39_6, e_39_8, e_39_11, e_39_14, e_39_17, e_39_18, e_39_19, e_39_22, e_39_22n, Option.toList_some, Option.toList_none, List.cons_append, List.nil_append, catS_cons, catS_nil, cat_int, cat_long, cat_ref, cat_null, c1_i, c1_r, c1_n, c1_m, true_and, and_true, and_self, putR_1, putR_u, eq_self, Nat.reduceLT, Nat.reduceLeDiff, Nat.reduceAdd, Nat.reduceEqDiff, vk_i, vk_l, vk_r, vk_n, vk_0, vk_1, if_true, if_false, not_true_eq_false, not_false_eq_true, false_and, and_false, ne_eq, true_or, or_true, ite_not, reduceCtorEq, putX_1, putX_u, putX_hi, hset_Xhi, px_5, xf_5_0, xf_5_1, xI_5_1, xf_5_2, xR_0, xf_5_3, xI_5_3, xf_5_4, xI_5_4, xf_5_5, xf_5_6, xI_5_6, xf_5_7, xf_5_8, xf_5_9, xf_5_10, xf_5_11, xf_5_12, xf_5_13, xf_5_14, xf_5_15, xI_5_15, px_6, xA_6, px_18, xA_18, px_19, xf_19_0, xI_19_0, xf_19_1, xR_1, xf_19_2, xI_19_2, px_20, xf_20_0, xI_20_0, xf_20_1, xR_2, xf_20_2, xI_20_2, px_21, xf_21_0, xI_21_0, xf_21_1, xR_3, xf_21_2, xI_21_2, px_22, xf_22_0, xI_22_0, xf_22_1, xR_4, xf_22_2, xI_22_2, px_23, xf_23_0, xI_23_0, xf_23_1, xR_5, xf_23_2, xI_23_2, px_24, xf_24_0, xI_24_0, xf_24_1, xR_6, xf_24_2, xI_24_2, px_25, xf_25_0, xI_25_0, xf_25_1, xI_25_1, xf_25_2, xf_25_3, xI_25_3, xf_25_4, xf_25_5, xf_25_6, px_26, xA_26, px_27, px_28, xA_28, px_29, xA_29, px_30, xA_30, px_31, xA_31, px_32, xA_32, px_33, xA_33, px_34, xA_34, px_35, xA_35, px_36, xA_36, px_37, xA_37, px_38, xA_38, px_39, xA_39, px_40, xA_40, px_41, xA_41, px_42, xA_42, px_43, xA_43, px_44, xA_44, px_45, xA_45, px_46, xA_46, px_47, xA_47, px_48, xA_48, px_49, xA_49, px_50, xA_50, px_51, xA_51, px_52, xA_52, px_53, xA_53, px_54, xA_54, px_55, xA_55, px_56, xA_56, px_57, xA_57, px_58, xA_58, px_59, xA_59, px_60, xA_60, px_61, xA_61, px_62, xA_62, px_63, xA_63, px_64, xA_64, px_65, xA_65, px_66, xA_66, px_67, xA_67, px_68, xA_68, px_69, xA_69, px_70, xf_70_0, xI_70_0, xf_70_1, xI_70_1, xf_70_2, xI_70_2, xf_70_3, xf_70_4, px_71, xA_71, px_72, xA_72, ni_ixL, ni_clL, ni_add, ni_mul, ni_lt, ni_le, ni_eq, ni_clamp, ni_ix, ni_lt0, ni_0le, ni_ltL, ni_Llt, ni_leL, ni_Lle, ni_eqL, ni_addL, ni_Ladd, ni_mulL, ni_Lmul, ni_subL, ni_sub, ni_Lsub, le_t, le_f, lt_t, lt_f, eq_f, il_lt, il_l0, il_g0, il_l1, il_g1, il_l2, il_g2, il_l3, il_g3, il_l4, il_g4, il_l5, il_g5, il_l7, il_g7, il_l8, il_g8, il_l9, il_g9, il_l10, il_g10, il_l15, il_g15, il_l20, il_g20, il_l23, il_g23, il_l24, il_g24, il_l60, il_g60, il_l100, il_g100, il_l999, il_g999, il_l1000, il_g1000, putR_lo, hset_lo, putR_lt hh, rd_hi, wr_hi, hs_1, hs_s, hs_o, uv_s, uv_o, pv_0, pv_n, i1_0, bs_0, bs_1, im_lt, im_ge, im_eq, ni_em, nw_hi, hn_1, hn_s, hn_o, ni_Ll0, hv, h10, i_lty h10]
end
