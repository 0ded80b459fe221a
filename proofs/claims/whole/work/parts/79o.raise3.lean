section
variable {K : Nat → pcell} {tb : Nat} {g g' g1 g2 : gS} {r r' r0 r1 r2 s s' : rS} {x x' x1 x2 xb : xS} {h h' h1 h2 : pheap} {a n k m i j c p q d va ta L A base o mi b u n1 n2 u1 u2 P nn F rcd : Nat} {Q : Option Value → pheap → Prop} {nt' e sv : Int32} {av : Nat → Nat} {sr : Nat → Int32} {nm : Nat → Int64} {t v w : Int64} {l : List Nat} {N : Nat → Int64}
/-- what RAISE leaves of the class's cells: all but the rows of nodes' fields -/
def FR (g' g : gS) (h' h : pheap) (n u : Nat) : Prop := DG g' g h' h n u ∧ ∀ b, b < h.1 → g'.2.2.2.1 b = g.2.2.2.1 b ∧ g'.2.1 b = g.2.1 b ∧ g'.2.2.1 b = g.2.2.1 b ∧ ((g.2.2.2.1 b).1 ≠ 6 → h'.2.2 b = h.2.2 b)
theorem fr_t (p : FR g g1 h h1 n1 u1) (q : FR g1 g2 h1 h2 n2 u2) : FR g g2 h h2 (n1 + n2) (u1 + u2) := by
  refine ⟨dg_t p.1 q.1, fun b hb => ?_⟩
  obtain ⟨q1, q2, q3, q4⟩ := q.2 b hb
  obtain ⟨p1, p2, p3, p4⟩ := p.2 b (Nat.lt_of_lt_of_le hb q.1.2.2.2.1)
  refine ⟨p1.trans q1, p2.trans q2, p3.trans q3, fun z => ?_⟩
  exact (p4 (by rw [q1]; exact z)).trans (q4 z)
theorem fr_r : FR g g h h 0 0 := ⟨⟨rfl, rfl, fun _ _ => rfl, Nat.le_refl _, Nat.le_refl _, Nat.le_refl _⟩, fun _ _ => ⟨rfl, rfl, rfl, fun _ => rfl⟩⟩
theorem fr_le (p : FR g' g h' h n u) (h1 : n ≤ n1) (h2 : u ≤ u1) : FR g' g h' h n1 u1 := by
  obtain ⟨⟨a1, a2, a3, a4, a5, a6⟩, a7⟩ := p
  exact ⟨⟨a1, a2, a3, a4, by omega, by omega⟩, a7⟩
theorem rf_rw (hN : ∀ c, 363 ≤ c → N c = (r.2.2.2 87) c) : RF (rwR r N ((r.2.2.1 88)) ((r.2.2.1 89))) r := by
  refine ⟨rfl, rfl, fun a _ => ?_, fun a ha => upN_n _ _ ha, hN⟩
  show upN (upN r.2.2.1 88 _) 89 _ a = _
  by_cases e : a = 89
  · subst e; rfl
  · rw [upN_n _ _ e]
    by_cases e1 : a = 88
    · subst e1; rfl
    · rw [upN_n _ _ e1]
theorem VV_i {nn no : Nat} {nrec os : Nat → Nat} {y : Int32} : VV nn no nrec os y.toInt64 0 := by
  refine ⟨fun _ => ⟨_, rfl⟩, fun z => absurd z (by decide), fun k hk z => ?_, fun k hk z => ?_⟩
  · exact absurd z (fun y => by have := (ni_eq (a := 0) (b := 10 + k) (by omega) (by omega)).mp y; omega)
  · exact absurd z (fun y => by have := (ni_eq (a := 0) (b := 20 + k) (by omega) (by omega)).mp y; omega)
theorem VV_l {nn no : Nat} {nrec os : Nat → Nat} : VV nn no nrec os v 1 := by
  refine ⟨fun z => absurd z (by decide), fun z => absurd z (by decide), fun k hk z => ?_, fun k hk z => ?_⟩
  · exact absurd z (fun y => by have := (ni_eq (a := 1) (b := 10 + k) (by omega) (by omega)).mp y; omega)
  · exact absurd z (fun y => by have := (ni_eq (a := 1) (b := 20 + k) (by omega) (by omega)).mp y; omega)
/-- one field of a node has a new number -/
theorem w_inc (hw : World K tb g r x h) (hm : m < (g.1 0 1)) (hk : k < (g.2.2.2.2.2 8) ((g.2.2.2.2.2 11) m)) (hs : (r.2.2.1 80) (6 * (g.2.2.2.2.2 11) m + k) = sv) (h4 : sv ≠ 4) (hv : VV (g.1 0 1) (g.1 0 4) ((g.2.2.2.2.2 11)) ((g.2.2.2.2.2 13)) w sv) : World K tb (gN (gW g h.1 sv w 0) 7 (6 * m + k) h.1) (rwR r (upN ((r.2.2.2 87)) (3 + (6 * m + k)) w) ((r.2.2.1 88)) ((r.2.2.1 89))) x (hset (mkV h sv w 0) ((g.1 2) m + 1) k (.ref h.1)) ∧ FR (gN (gW g h.1 sv w 0) 7 (6 * m + k) h.1) g (hset (mkV h sv w 0) ((g.1 2) m + 1) k (.ref h.1)) h 1 3 := by
  have hh := sim_146 hw.1
  have hw1 := w_mkV hw (s := sv) (v := w) (t := 0) (fun z => absurd rfl z)
  obtain ⟨b1, b2, b3, -⟩ := sim_cell hw.1 (ref_nfl (x2 := x.2) hm)
  refine ⟨w_set (a := h.1) (N := upN ((r.2.2.2 87)) (3 + (6 * m + k)) w) (L := (r.2.2.1 88)) (T := (r.2.2.1 89)) hw1 hm hk ⟨hh, by rw [mkV_1]; omega, gP_ro⟩ (by show VV (g.1 0 1) (g.1 0 4) ((g.2.2.2.2.2 11)) ((g.2.2.2.2.2 13)) _ ((r.2.2.1 80) (6 * (g.2.2.2.2.2 11) m + k)); rw [hs, upN_s]; exact hv) (fun c hc => upN_n _ _ hc) (fun c hc => rfl) (fun _ _ _ _ => rfl) ?_, ⟨rfl, rfl, fun a ha => upN_n _ _ ha, ?_, ?_, ?_⟩, fun b hb => ⟨gP_rn (g := g) (k := 1) (w := (sv, w, 0)) (w2 := (0, fun _ => 0)) (a := h.1) (b := b) (by omega), gP_vn (g := g) (k := 1) (w := (sv, w, 0)) (w2 := (0, fun _ => 0)) (a := h.1) (b := b) (by omega), gP_an (g := g) (k := 1) (w := (sv, w, 0)) (w2 := (0, fun _ => 0)) (a := h.1) (b := b) (by omega), fun z => ?_⟩⟩
  · unfold VR gW
    rw [gP_va]
    exact ⟨hs.symm, fun _ => ⟨(upN_s _ _ _).symm, rfl⟩, fun z => absurd (hs.symm.trans z) h4⟩
  · rw [hs_1, mkV_1]; omega
  · rw [hs_1, mkV_1]; omega
  · rw [hs_u, mkV_u]; omega
  · have hne : b ≠ (g.1 2) m + 1 := fun y => z (by rw [y, b3])
    rw [hs_o _ _ hne, mkV_o (by omega)]
theorem inc_ok (hF : F ≤ 6) : ∀ t j g r h, j + t = F → World K tb g r x h → m < (g.1 0 1) → (g.2.2.2.2.2 8) ((g.2.2.2.2.2 11) m) = F → (∀ k, k < F → (r.2.2.1 80) (6 * (g.2.2.2.2.2 11) m + k) = sr k) → ∃ g' r' h', World K tb g' r' x h' ∧ FR g' g h' h t (3 * t) ∧ RF r' r ∧ (∀ c, c < 3 + 6 * m + j ∨ 3 + 6 * m + F ≤ c → (r'.2.2.2 87) c = (r.2.2.2 87) c) ∧ (∀ k, j ≤ k → k < F → (r'.2.2.2 87) (3 + 6 * m + k) = iv (sr k) ((r.2.2.2 87) (3 + 6 * m + k))) ∧ ∀ d r0 Q Y2 Y3, Go (d + 3) 121 2 [.ref ((g.1 2) m), .int (nI j), Y2, Y3, mk0] [] (putR r0 (putX x h)) Q = Q none (putR r0 (putX x h'))
  | 0, j, g, r, h, hj, hw, hm, hf, hsr => by
    have e : j = F := by omega
    subst e
    have hh := sim_146 hw.1
    obtain ⟨b1, b2, b3, b4, b5⟩ := s_nod hw.1 hm
    obtain ⟨a1, a2, a3, a4, a5⟩ := s_nfl hw.1 hm
    rw [hf] at a4
    refine ⟨g, r, h, hw, fr_r, rf_r, fun _ _ => rfl, fun k k1 k2 => by omega, fun d r0 Q Y2 Y3 => ?_⟩
    simp (disch := first | exact c1_i _ | exact c1_r _ | exact c1_n | exact c1_m | omega | assumption | (apply ac_l; omega) | (apply ac_r; omega) | decide | exact Or.inl rfl) only [e_121_2, e_121_3, e_121_3n, e_121_4, e_121_7, e_121_8, e_121_85, Option.toList_some, Option.toList_none, List.cons_append, List.nil_append, catS_cons, catS_nil, cat_int, cat_long, cat_ref, cat_null, c1_i, c1_r, c1_n, c1_m, true_and, and_true, and_self, putR_1, putR_u, eq_self, Nat.reduceLT, Nat.reduceLeDiff, Nat.reduceAdd, Nat.reduceEqDiff, vk_i, vk_l, vk_r, vk_n, vk_0, vk_1, if_true, if_false, not_true_eq_false, not_false_eq_true, false_and, and_false, ne_eq, true_or, or_true, ite_not, reduceCtorEq, putX_1, putX_u, putX_hi, hset_Xhi, px_5, xf_5_0, xf_5_1, xI_5_1, xf_5_2, xR_0, xf_5_3, xI_5_3, xf_5_4, xI_5_4, xf_5_5, xf_5_6, xI_5_6, xf_5_7, xf_5_8, xf_5_9, xf_5_10, xf_5_11, xf_5_12, xf_5_13, xf_5_14, xf_5_15, xI_5_15, px_6, xA_6, px_18, xA_18, px_19, xf_19_0, xI_19_0, xf_19_1, xR_1, xf_19_2, xI_19_2, px_20, xf_20_0, xI_20_0, xf_20_1, xR_2, xf_20_2, xI_20_2, px_21, xf_21_0, xI_21_0, xf_21_1, xR_3, xf_21_2, xI_21_2, px_22, xf_22_0, xI_22_0, xf_22_1, xR_4, xf_22_2, xI_22_2, px_23, xf_23_0, xI_23_0, xf_23_1, xR_5, xf_23_2, xI_23_2, px_24, xf_24_0, xI_24_0, xf_24_1, xR_6, xf_24_2, xI_24_2, px_25, xf_25_0, xI_25_0, xf_25_1, xI_25_1, xf_25_2, xf_25_3, xI_25_3, xf_25_4, xf_25_5, xf_25_6, px_26, xA_26, px_27, px_28, xA_28, px_29, xA_29, px_30, xA_30, px_31, xA_31, px_32, xA_32, px_33, xA_33, px_34, xA_34, px_35, xA_35, px_36, xA_36, px_37, xA_37, px_38, xA_38, px_39, xA_39, px_40, xA_40, px_41, xA_41, px_42, xA_42, px_43, xA_43, px_44, xA_44, px_45, xA_45, px_46, xA_46, px_47, xA_47, px_48, xA_48, px_49, xA_49, px_50, xA_50, px_51, xA_51, px_52, xA_52, px_53, xA_53, px_54, xA_54, px_55, xA_55, px_56, xA_56, px_57, xA_57, px_58, xA_58, px_59, xA_59, px_60, xA_60, px_61, xA_61, px_62, xA_62, px_63, xA_63, px_64, xA_64, px_65, xA_65, px_66, xA_66, px_67, xA_67, px_68, xA_68, px_69, xA_69, px_70, xf_70_0, xI_70_0, xf_70_1, xI_70_1, xf_70_2, xI_70_2, xf_70_3, xf_70_4, px_71, xA_71, px_72, xA_72, ni_ixL, ni_clL, ni_add, ni_mul, ni_lt, ni_le, ni_eq, ni_clamp, ni_ix, ni_lt0, ni_0le, ni_ltL, ni_Llt, ni_leL, ni_Lle, ni_eqL, ni_addL, ni_Ladd, ni_mulL, ni_Lmul, ni_subL, ni_sub, ni_Lsub, le_t, le_f, lt_t, lt_f, eq_f, il_lt, il_l0, il_g0, il_l1, il_g1, il_l2, il_g2, il_l3, il_g3, il_l4, il_g4, il_l5, il_g5, il_l7, il_g7, il_l8, il_g8, il_l9, il_g9, il_l10, il_g10, il_l15, il_g15, il_l20, il_g20, il_l23, il_g23, il_l24, il_g24, il_l60, il_g60, il_l100, il_g100, il_l999, il_g999, il_l1000, il_g1000, putR_lo, hset_lo, putR_lt hh, rd_hi, wr_hi, hs_1, hs_s, hs_o, uv_s, uv_o, pv_0, pv_n, i1_0, bs_0, bs_1, im_lt, im_ge, im_eq, ni_em, b3, b5, a3, a4]
  | t + 1, j, g, r, h, hj, hw, hm, hf, hsr => by
    have hh := sim_146 hw.1
    obtain ⟨n1, n2, n3⟩ := w_nn hw
    obtain ⟨b1, b2, b3, b4, b5⟩ := s_nod hw.1 hm
    obtain ⟨a1, a2, a3, a4, a5⟩ := s_nfl hw.1 hm
    have hjf : j < (g.2.2.2.2.2 8) ((g.2.2.2.2.2 11) m) := by omega
    obtain ⟨p1, p2, p3, -⟩ := sim_cell hw.1 (ref_fld (x2 := x.2) hm hjf)
    obtain ⟨v0, v1, v2, v3⟩ := s_val hw.1 p3 p1 p2
    obtain ⟨w1, w2, w3⟩ := (w_vr hw).2.1 m hm j hjf
    have hs := hsr j (by omega)
    have a5j := a5 j hjf
    rw [w1, hs] at v1
    rw [hf] at a4
    have hcell : 3 + (6 * m + j) = 3 + 6 * m + j := by omega
    -- a number that is raised
    have hnum : ∀ w, iv (sr j) ((r.2.2.2 87) (3 + 6 * m + j)) = w → sr j ≠ 4 → VV (g.1 0 1) (g.1 0 4) ((g.2.2.2.2.2 11)) ((g.2.2.2.2.2 13)) w (sr j) → (∀ d r0 Q Y2 Y3, ∃ Y3', Go (d + 3) 121 2 [.ref ((g.1 2) m), .int (nI j), Y2, Y3, mk0] [] (putR r0 (putX x h)) Q = Go (d + 3) 121 2 [.ref ((g.1 2) m), .int (nI (j + 1)), .int (sr j), Y3', mk0] [] (putR r0 (putX x (hset (mkV h (sr j) w 0) ((g.1 2) m + 1) j (.ref h.1)))) Q) → ∃ g' r' h', World K tb g' r' x h' ∧ FR g' g h' h (t + 1) (3 * (t + 1)) ∧ RF r' r ∧ (∀ c, c < 3 + 6 * m + j ∨ 3 + 6 * m + F ≤ c → (r'.2.2.2 87) c = (r.2.2.2 87) c) ∧ (∀ k, j ≤ k → k < F → (r'.2.2.2 87) (3 + 6 * m + k) = iv (sr k) ((r.2.2.2 87) (3 + 6 * m + k))) ∧ ∀ d r0 Q Y2 Y3, Go (d + 3) 121 2 [.ref ((g.1 2) m), .int (nI j), Y2, Y3, mk0] [] (putR r0 (putX x h)) Q = Q none (putR r0 (putX x h')) := fun w hiv h4 hvv hrun => by
      obtain ⟨hw1, hfr⟩ := w_inc hw hm hjf hs h4 hvv
      rw [hcell] at hw1
      have hs1 : ∀ c, c ≠ 3 + 6 * m + j → (rwR r (upN ((r.2.2.2 87)) (3 + 6 * m + j) w) ((r.2.2.1 88)) ((r.2.2.1 89))).2.2.2 87 c = (r.2.2.2 87) c := fun c hc => upN_n ((r.2.2.2 87)) w hc
      have hs2 : (rwR r (upN ((r.2.2.2 87)) (3 + 6 * m + j) w) ((r.2.2.1 88)) ((r.2.2.1 89))).2.2.2 87 (3 + 6 * m + j) = w := upN_s ((r.2.2.2 87)) _ w
      obtain ⟨g', r', h', y1, y2, y3, y4, y5, y6⟩ := inc_ok hF t (j + 1) _ _ _ (by omega) hw1 hm hf hsr
      refine ⟨g', r', h', y1, fr_le (fr_t y2 hfr) (by omega) (by omega), rf_t y3 (rf_rw (fun c hc => upN_n _ _ (by omega))), fun c hc => ?_, fun k k1 k2 => ?_, fun d r0 Q Y2 Y3 => ?_⟩
      · exact (y4 c (by omega)).trans (hs1 c (by omega))
      · by_cases e : k = j
        · subst e
          rw [hiv]
          exact (y4 _ (by omega)).trans hs2
        · rw [y5 k (by omega) k2, hs1 _ (by omega)]
      · obtain ⟨Y3', y7⟩ := hrun d r0 Q Y2 Y3
        exact y7.trans (y6 d r0 Q (.int (sr j)) Y3')
    by_cases c0 : sr j = 0
    · have hn := w2 (by rw [hs, c0]; decide)
      rw [hn.1, hcell] at v2
      refine hnum (((r.2.2.2 87) (3 + 6 * m + j) + 1).toInt32.toInt64) (by unfold iv; rw [if_pos c0]) (by rw [c0]; decide) (by rw [c0]; exact VV_i) (fun d r0 Q Y2 Y3 => ⟨.long ((r.2.2.2 87) (3 + 6 * m + j) + 1), ?_⟩)
      have hv := fun d Q v => x_newValue (d := d) (Q := Q) (r0 := r0) (x := x) (h := h) (s := 0) (v := v) (t := 0) hh
      simp only [pv_0] at hv
      have c1 : ∀ v, (mkV h 0 v 0).2.2 ((g.1 2) m + 1) = h.2.2 ((g.1 2) m + 1) := fun v => mkV_o (by omega)
      have c2 : ∀ v, (mkV h 0 v 0).2.2 ((g.1 2) m) = h.2.2 ((g.1 2) m) := fun v => mkV_o (by omega)
      have ha := fun v => aas25 (r := r0) (x := x) (h := mkV h 0 v 0) (b := h.1) hh (by rw [mkV_1]; omega) (mkV_s (h := h)).1
      have hn1 : (g.1 2) m ≠ h.1 := by omega
      have hn2 : (g.1 2) m + 1 ≠ h.1 := by omega
      rw [c0, e_121_2]
      rw [c0] at v1
      simp (disch := first | exact c1_i _ | exact c1_r _ | exact c1_n | exact c1_m | omega | assumption | (simp only [hn_1, hs_1, hC_1]; omega) | (apply ac_l; omega) | (apply ac_r; omega) | decide | exact Or.inl rfl) only [e_121_3, e_121_3n, e_121_4, e_121_7, e_121_8, e_121_11, e_121_11n, e_121_12, e_121_15, e_121_16, e_121_17, e_121_20, e_121_21, e_121_21n, e_121_22, e_121_25, e_121_26, e_121_27, e_121_30, e_121_31, e_121_32, e_121_33, e_121_34, e_121_37, e_121_37n, e_121_38, e_121_41, e_121_42, e_121_45, e_121_46, e_121_47, e_121_48, e_121_49, e_121_50, e_121_51, e_121_54, e_121_55, e_121_58, e_121_59, e_121_60, e_121_63, e_121_63n, e_121_64, e_121_67, e_121_68, e_121_71, e_121_72, e_121_73, e_121_74, e_121_75, e_121_78, e_121_79, e_121_82, Option.toList_some, Option.toList_none, List.cons_append, List.nil_append, catS_cons, catS_nil, cat_int, cat_long, cat_ref, cat_null, c1_i, c1_r, c1_n, c1_m, true_and, and_true, and_self, putR_1, putR_u, eq_self, Nat.reduceLT, Nat.reduceLeDiff, Nat.reduceAdd, Nat.reduceEqDiff, vk_i, vk_l, vk_r, vk_n, vk_0, vk_1, if_true, if_false, not_true_eq_false, not_false_eq_true, false_and, and_false, ne_eq, true_or, or_true, ite_not, reduceCtorEq, putX_1, putX_u, putX_hi, hset_Xhi, px_5, xf_5_0, xf_5_1, xI_5_1, xf_5_2, xR_0, xf_5_3, xI_5_3, xf_5_4, xI_5_4, xf_5_5, xf_5_6, xI_5_6, xf_5_7, xf_5_8, xf_5_9, xf_5_10, xf_5_11, xf_5_12, xf_5_13, xf_5_14, xf_5_15, xI_5_15, px_6, xA_6, px_18, xA_18, px_19, xf_19_0, xI_19_0, xf_19_1, xR_1, xf_19_2, xI_19_2, px_20, xf_20_0, xI_20_0, xf_20_1, xR_2, xf_20_2, xI_20_2, px_21, xf_21_0, xI_21_0, xf_21_1, xR_3, xf_21_2, xI_21_2, px_22, xf_22_0, xI_22_0, xf_22_1, xR_4, xf_22_2, xI_22_2, px_23, xf_23_0, xI_23_0, xf_23_1, xR_5, xf_23_2, xI_23_2, px_24, xf_24_0, xI_24_0, xf_24_1, xR_6, xf_24_2, xI_24_2, px_25, xf_25_0, xI_25_0, xf_25_1, xI_25_1, xf_25_2, xf_25_3, xI_25_3, xf_25_4, xf_25_5, xf_25_6, px_26, xA_26, px_27, px_28, xA_28, px_29, xA_29, px_30, xA_30, px_31, xA_31, px_32, xA_32, px_33, xA_33, px_34, xA_34, px_35, xA_35, px_36, xA_36, px_37, xA_37, px_38, xA_38, px_39, xA_39, px_40, xA_40, px_41, xA_41, px_42, xA_42, px_43, xA_43, px_44, xA_44, px_45, xA_45, px_46, xA_46, px_47, xA_47, px_48, xA_48, px_49, xA_49, px_50, xA_50, px_51, xA_51, px_52, xA_52, px_53, xA_53, px_54, xA_54, px_55, xA_55, px_56, xA_56, px_57, xA_57, px_58, xA_58, px_59, xA_59, px_60, xA_60, px_61, xA_61, px_62, xA_62, px_63, xA_63, px_64, xA_64, px_65, xA_65, px_66, xA_66, px_67, xA_67, px_68, xA_68, px_69, xA_69, px_70, xf_70_0, xI_70_0, xf_70_1, xI_70_1, xf_70_2, xI_70_2, xf_70_3, xf_70_4, px_71, xA_71, px_72, xA_72, ni_ixL, ni_clL, ni_add, ni_mul, ni_lt, ni_le, ni_eq, ni_clamp, ni_ix, ni_lt0, ni_0le, ni_ltL, ni_Llt, ni_leL, ni_Lle, ni_eqL, ni_addL, ni_Ladd, ni_mulL, ni_Lmul, ni_subL, ni_sub, ni_Lsub, le_t, le_f, lt_t, lt_f, eq_f, il_lt, il_l0, il_g0, il_l1, il_g1, il_l2, il_g2, il_l3, il_g3, il_l4, il_g4, il_l5, il_g5, il_l7, il_g7, il_l8, il_g8, il_l9, il_g9, il_l10, il_g10, il_l15, il_g15, il_l20, il_g20, il_l23, il_g23, il_l24, il_g24, il_l60, il_g60, il_l100, il_g100, il_l999, il_g999, il_l1000, il_g1000, putR_lo, hset_lo, putR_lt hh, rd_hi, wr_hi, hs_1, hs_s, hs_o, uv_s, uv_o, pv_0, pv_n, i1_0, bs_0, bs_1, im_lt, im_ge, im_eq, ni_em, nw_hi, hn_1, hn_s, hn_o, ni_Ll0, mkV_1, b3, b5, a3, a4, a5j, v0, v1, v2, hv, c1, c2, ha]
    · by_cases c1 : sr j = 1
      · have hn := w2 (by rw [hs, c1]; decide)
        rw [hn.1, hcell] at v2
        refine hnum ((r.2.2.2 87) (3 + 6 * m + j) + 1) (by unfold iv; rw [if_neg c0, if_pos c1]) (by rw [c1]; decide) (by rw [c1]; exact VV_l) (fun d r0 Q Y2 Y3 => ⟨.long ((r.2.2.2 87) (3 + 6 * m + j) + 1), ?_⟩)
        have hv := fun d Q v => x_newValue (d := d) (Q := Q) (r0 := r0) (x := x) (h := h) (s := 1) (v := v) (t := 0) hh
        simp only [pv_0] at hv
        have d1 : ∀ v, (mkV h 1 v 0).2.2 ((g.1 2) m + 1) = h.2.2 ((g.1 2) m + 1) := fun v => mkV_o (by omega)
        have d2 : ∀ v, (mkV h 1 v 0).2.2 ((g.1 2) m) = h.2.2 ((g.1 2) m) := fun v => mkV_o (by omega)
        have ha := fun v => aas25 (r := r0) (x := x) (h := mkV h 1 v 0) (b := h.1) hh (by rw [mkV_1]; omega) (mkV_s (h := h)).1
        have hn1 : (g.1 2) m ≠ h.1 := by omega
        have hn2 : (g.1 2) m + 1 ≠ h.1 := by omega
        rw [c1, e_121_2]
        rw [c1] at v1
        simp (disch := first | exact c1_i _ | exact c1_r _ | exact c1_n | exact c1_m | omega | assumption | (simp only [hn_1, hs_1, hC_1]; omega) | (apply ac_l; omega) | (apply ac_r; omega) | decide | exact Or.inl rfl) only [e_121_3, e_121_3n, e_121_4, e_121_7, e_121_8, e_121_11, e_121_11n, e_121_12, e_121_15, e_121_16, e_121_17, e_121_20, e_121_21, e_121_21n, e_121_22, e_121_25, e_121_26, e_121_27, e_121_30, e_121_31, e_121_32, e_121_33, e_121_34, e_121_37, e_121_37n, e_121_38, e_121_41, e_121_42, e_121_45, e_121_46, e_121_47, e_121_48, e_121_49, e_121_50, e_121_51, e_121_54, e_121_55, e_121_58, e_121_59, e_121_60, e_121_63, e_121_63n, e_121_64, e_121_67, e_121_68, e_121_71, e_121_72, e_121_73, e_121_74, e_121_75, e_121_78, e_121_79, e_121_82, Option.toList_some, Option.toList_none, List.cons_append, List.nil_append, catS_cons, catS_nil, cat_int, cat_long, cat_ref, cat_null, c1_i, c1_r, c1_n, c1_m, true_and, and_true, and_self, putR_1, putR_u, eq_self, Nat.reduceLT, Nat.reduceLeDiff, Nat.reduceAdd, Nat.reduceEqDiff, vk_i, vk_l, vk_r, vk_n, vk_0, vk_1, if_true, if_false, not_true_eq_false, not_false_eq_true, false_and, and_false, ne_eq, true_or, or_true, ite_not, reduceCtorEq, putX_1, putX_u, putX_hi, hset_Xhi, px_5, xf_5_0, xf_5_1, xI_5_1, xf_5_2, xR_0, xf_5_3, xI_5_3, xf_5_4, xI_5_4, xf_5_5, xf_5_6, xI_5_6, xf_5_7, xf_5_8, xf_5_9, xf_5_10, xf_5_11, xf_5_12, xf_5_13, xf_5_14, xf_5_15, xI_5_15, px_6, xA_6, px_18, xA_18, px_19, xf_19_0, xI_19_0, xf_19_1, xR_1, xf_19_2, xI_19_2, px_20, xf_20_0, xI_20_0, xf_20_1, xR_2, xf_20_2, xI_20_2, px_21, xf_21_0, xI_21_0, xf_21_1, xR_3, xf_21_2, xI_21_2, px_22, xf_22_0, xI_22_0, xf_22_1, xR_4, xf_22_2, xI_22_2, px_23, xf_23_0, xI_23_0, xf_23_1, xR_5, xf_23_2, xI_23_2, px_24, xf_24_0, xI_24_0, xf_24_1, xR_6, xf_24_2, xI_24_2, px_25, xf_25_0, xI_25_0, xf_25_1, xI_25_1, xf_25_2, xf_25_3, xI_25_3, xf_25_4, xf_25_5, xf_25_6, px_26, xA_26, px_27, px_28, xA_28, px_29, xA_29, px_30, xA_30, px_31, xA_31, px_32, xA_32, px_33, xA_33, px_34, xA_34, px_35, xA_35, px_36, xA_36, px_37, xA_37, px_38, xA_38, px_39, xA_39, px_40, xA_40, px_41, xA_41, px_42, xA_42, px_43, xA_43, px_44, xA_44, px_45, xA_45, px_46, xA_46, px_47, xA_47, px_48, xA_48, px_49, xA_49, px_50, xA_50, px_51, xA_51, px_52, xA_52, px_53, xA_53, px_54, xA_54, px_55, xA_55, px_56, xA_56, px_57, xA_57, px_58, xA_58, px_59, xA_59, px_60, xA_60, px_61, xA_61, px_62, xA_62, px_63, xA_63, px_64, xA_64, px_65, xA_65, px_66, xA_66, px_67, xA_67, px_68, xA_68, px_69, xA_69, px_70, xf_70_0, xI_70_0, xf_70_1, xI_70_1, xf_70_2, xI_70_2, xf_70_3, xf_70_4, px_71, xA_71, px_72, xA_72, ni_ixL, ni_clL, ni_add, ni_mul, ni_lt, ni_le, ni_eq, ni_clamp, ni_ix, ni_lt0, ni_0le, ni_ltL, ni_Llt, ni_leL, ni_Lle, ni_eqL, ni_addL, ni_Ladd, ni_mulL, ni_Lmul, ni_subL, ni_sub, ni_Lsub, le_t, le_f, lt_t, lt_f, eq_f, il_lt, il_l0, il_g0, il_l1, il_g1, il_l2, il_g2, il_l3, il_g3, il_l4, il_g4, il_l5, il_g5, il_l7, il_g7, il_l8, il_g8, il_l9, il_g9, il_l10, il_g10, il_l15, il_g15, il_l20, il_g20, il_l23, il_g23, il_l24, il_g24, il_l60, il_g60, il_l100, il_g100, il_l999, il_g999, il_l1000, il_g1000, putR_lo, hset_lo, putR_lt hh, rd_hi, wr_hi, hs_1, hs_s, hs_o, uv_s, uv_o, pv_0, pv_n, i1_0, bs_0, bs_1, im_lt, im_ge, im_eq, ni_em, nw_hi, hn_1, hn_s, hn_o, ni_Ll0, iq10, mkV_1, b3, b5, a3, a4, a5j, v0, v1, v2, hv, d1, d2, ha]
      · obtain ⟨g', r', h', y1, y2, y3, y4, y5, y6⟩ := inc_ok hF t (j + 1) g r h (by omega) hw hm hf hsr
        refine ⟨g', r', h', y1, fr_le y2 (by omega) (by omega), y3, fun c hc => y4 c (by omega), fun k k1 k2 => ?_, fun d r0 Q Y2 Y3 => ?_⟩
        · by_cases e : k = j
          · subst e
            unfold iv
            rw [if_neg c0, if_neg c1]
            exact y4 _ (by omega)
          · exact y5 k (by omega) k2
        · rw [← y6 d r0 Q (.int (sr j)) (.long ((g.2.1 ((g.2.2.2.2.2 7) (6 * m + j))).2.1 + 1)), e_121_2]
          simp (disch := first | exact c1_i _ | exact c1_r _ | exact c1_n | exact c1_m | omega | assumption | (apply ac_l; omega) | (apply ac_r; omega) | decide | exact Or.inl rfl) only [e_121_3, e_121_3n, e_121_4, e_121_7, e_121_8, e_121_11, e_121_11n, e_121_12, e_121_15, e_121_16, e_121_17, e_121_20, e_121_21, e_121_21n, e_121_22, e_121_25, e_121_26, e_121_27, e_121_30, e_121_31, e_121_32, e_121_33, e_121_34, e_121_37, e_121_37n, e_121_38, e_121_41, e_121_42, e_121_45, e_121_46, e_121_47, e_121_48, e_121_49, e_121_50, e_121_51, e_121_54, e_121_55, e_121_58, e_121_59, e_121_60, e_121_63, e_121_63n, e_121_64, e_121_67, e_121_68, e_121_71, e_121_72, e_121_73, e_121_74, e_121_75, e_121_78, e_121_79, e_121_82, Option.toList_some, Option.toList_none, List.cons_append, List.nil_append, catS_cons, catS_nil, cat_int, cat_long, cat_ref, cat_null, c1_i, c1_r, c1_n, c1_m, true_and, and_true, and_self, putR_1, putR_u, eq_self, Nat.reduceLT, Nat.reduceLeDiff, Nat.reduceAdd, Nat.reduceEqDiff, vk_i, vk_l, vk_r, vk_n, vk_0, vk_1, if_true, if_false, not_true_eq_false, not_false_eq_true, false_and, and_false, ne_eq, true_or, or_true, ite_not, reduceCtorEq, putX_1, putX_u, putX_hi, hset_Xhi, px_5, xf_5_0, xf_5_1, xI_5_1, xf_5_2, xR_0, xf_5_3, xI_5_3, xf_5_4, xI_5_4, xf_5_5, xf_5_6, xI_5_6, xf_5_7, xf_5_8, xf_5_9, xf_5_10, xf_5_11, xf_5_12, xf_5_13, xf_5_14, xf_5_15, xI_5_15, px_6, xA_6, px_18, xA_18, px_19, xf_19_0, xI_19_0, xf_19_1, xR_1, xf_19_2, xI_19_2, px_20, xf_20_0, xI_20_0, xf_20_1, xR_2, xf_20_2, xI_20_2, px_21, xf_21_0, xI_21_0, xf_21_1, xR_3, xf_21_2, xI_21_2, px_22, xf_22_0, xI_22_0, xf_22_1, xR_4, xf_22_2, xI_22_2, px_23, xf_23_0, xI_23_0, xf_23_1, xR_5, xf_23_2, xI_23_2, px_24, xf_24_0, xI_24_0, xf_24_1, xR_6, xf_24_2, xI_24_2, px_25, xf_25_0, xI_25_0, xf_25_1, xI_25_1, xf_25_2, xf_25_3, xI_25_3, xf_25_4, xf_25_5, xf_25_6, px_26, xA_26, px_27, px_28, xA_28, px_29, xA_29, px_30, xA_30, px_31, xA_31, px_32, xA_32, px_33, xA_33, px_34, xA_34, px_35, xA_35, px_36, xA_36, px_37, xA_37, px_38, xA_38, px_39, xA_39, px_40, xA_40, px_41, xA_41, px_42, xA_42, px_43, xA_43, px_44, xA_44, px_45, xA_45, px_46, xA_46, px_47, xA_47, px_48, xA_48, px_49, xA_49, px_50, xA_50, px_51, xA_51, px_52, xA_52, px_53, xA_53, px_54, xA_54, px_55, xA_55, px_56, xA_56, px_57, xA_57, px_58, xA_58, px_59, xA_59, px_60, xA_60, px_61, xA_61, px_62, xA_62, px_63, xA_63, px_64, xA_64, px_65, xA_65, px_66, xA_66, px_67, xA_67, px_68, xA_68, px_69, xA_69, px_70, xf_70_0, xI_70_0, xf_70_1, xI_70_1, xf_70_2, xI_70_2, xf_70_3, xf_70_4, px_71, xA_71, px_72, xA_72, ni_ixL, ni_clL, ni_add, ni_mul, ni_lt, ni_le, ni_eq, ni_clamp, ni_ix, ni_lt0, ni_0le, ni_ltL, ni_Llt, ni_leL, ni_Lle, ni_eqL, ni_addL, ni_Ladd, ni_mulL, ni_Lmul, ni_subL, ni_sub, ni_Lsub, le_t, le_f, lt_t, lt_f, eq_f, il_lt, il_l0, il_g0, il_l1, il_g1, il_l2, il_g2, il_l3, il_g3, il_l4, il_g4, il_l5, il_g5, il_l7, il_g7, il_l8, il_g8, il_l9, il_g9, il_l10, il_g10, il_l15, il_g15, il_l20, il_g20, il_l23, il_g23, il_l24, il_g24, il_l60, il_g60, il_l100, il_g100, il_l999, il_g999, il_l1000, il_g1000, putR_lo, hset_lo, putR_lt hh, rd_hi, wr_hi, hs_1, hs_s, hs_o, uv_s, uv_o, pv_0, pv_n, i1_0, bs_0, bs_1, im_lt, im_ge, im_eq, ni_em, b3, b5, a3, a4, a5j, v0, v1, v2, c0, c1]
end
