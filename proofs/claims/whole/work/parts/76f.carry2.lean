section
variable {K : Nat → pcell} {tb : Nat} {g g' g0 g1 g2 : gS} {r r' r0 r1 r2 r3 s' : rS} {x x' x1 x2 xb : xS} {h h' h1 : pheap} {d : Nat} {Q : Option Value → pheap → Prop} {a n k m i j b c ca sv ob cm ou rz L q s ag th oa : Nat}
theorem car_ok (hw : World K tb g r x h) (htb : tb ≤ 1000000) (hi : i < (g.1 0 3)) (hj : j < (g.1 0 3)) (hij : i ≠ j) (hk : k < 4) (hq1 : 1 ≤ q) (hq2 : q ≤ 1000) (hs : (r.2.2.1 96) (4 * i + k) = nI s) (hs2 : s ≤ tb) (hqs : q ≤ s) (hn : (g.1 0 5) < 60) : Same K tb r x h 167 [.ref 5, .int (nI i), .int (nI j), .int (nI k), .int (nI q), mk0, mk0, mk0] 285 [.ref 73, .int (nI i), .int (nI j), .int (nI k), .int (nI q), mk0] := by
  have hh := sim_146 hw.1
  obtain ⟨c1, c2, c3⟩ := w_nd hw
  obtain ⟨n1, n2, n3⟩ := w_nc hw
  obtain ⟨-, ⟨ag, hag, hags⟩, -⟩ := w_dsk hw j (by omega)
  obtain ⟨a1, a2, kt, k0, k1, k2, k3, k4, k5, k6, k7⟩ := s_dsk hw.1 hi
  obtain ⟨b1, b2, bt, b0, bq1, -⟩ := s_dsk hw.1 hj
  rw [hags] at bq1
  obtain ⟨p1, p2, p3, p4, p5⟩ := s_stk hw.1 hi
  have p6 : (h.2.2 ((g.1 4) i + 3)).2.2 k = .int (nI s) := by rw [p5 k hk]; exact congrArg Value.int hs
  have hw0 := w_stock hw hi hk (s := s - q) (by omega)
  have hjs : (g.1 4) j ≠ (g.1 4) i + 3 := r_ne hw.1 (ref_d0 (x2 := x.2) hj) (ref_d3 (x2 := x.2) hi) rfl
  obtain ⟨g1, x1, h2, hg, hadd⟩ := x_addCall hw0 hn (ca := (g.1 4) i) (sv := (g.1 4) j) (th := 0) (cm := k) (ou := 0)
  have hg' := hg
  obtain ⟨-, e2, e3, e4, e5, e6, e7, e8, e9, e10, e11, e12, e13, e14⟩ := hg'
  rw [mkC_1] at e6 e11 e12 e13
  rw [mkC_u] at e14
  simp only [hs_1, hs_u] at e6 e11 e12 e13 e14
  have hw1 := w_grw hw0 hg
  have hel : x1.2 6 < h2.1 ∧ g1.2.2.2.1 (x1.2 6) = (4, 6) := by
    have := hw1.1.2.1.1 _ _ (ref_el (g := g1) (x2 := x1.2) (q := 6) (by decide) (by decide) (by omega))
    exact ⟨this.2.1, this.2.2⟩
  have hdj : (g1.1 4) j = (g.1 4) j := by rw [e2]
  have hjel : (g.1 4) j ≠ x1.2 6 := fun z => by
    have := (hw1.1.2.1.1 _ _ (ref_d0 (g := g1) (x2 := x1.2) (i := j) (by rw [e2]; exact hj))).2.2
    rw [hdj, z, hel.2] at this
    cases this
  have ha : (hset h ((g.1 4) i + 3) k (.int (nI (s - q)))).1 = h.1 := rfl
  have hcel : h2.2.2 h.1 = (mkC (hset h ((g.1 4) i + 3) k (.int (nI (s - q)))) (g.1 0 5) ((g.1 4) i) ((g.1 4) j) 0 k 0 ((r.1 75))).2.2 h.1 := e11 _ (by omega)
  obtain ⟨-, cc, -⟩ := mkC_ok (n := (g.1 0 5)) (ca := (g.1 4) i) (sv := (g.1 4) j) (cm := k) (ou := 0) (th := 0) (bo := (r.1 75)) hw0.1
  have hael : x1.2 6 ≠ h.1 := fun z => by
    have t0 := sim_top hw.1 (Nat.le_refl h.1)
    have := e6 h.1 (by omega) (by rw [t0]; exact fun z => by cases z)
    rw [t0, ← z, hel.2] at this
    cases this
  have hjc : h2.2.2 ((g.1 4) j) = h.2.2 ((g.1 4) j) := by
    rw [e11 _ (by omega)]
    obtain ⟨-, -, m3⟩ := mkC_ok (n := (g.1 0 5)) (ca := (g.1 4) i) (sv := (g.1 4) j) (cm := k) (ou := 0) (th := 0) (bo := (r.1 75)) hw0.1
    exact (m3 ((g.1 4) j) (by rw [hs_1]; omega)).trans (hs_o _ _ hjs)
  -- what is written
  obtain ⟨wq5, ms0, ms1, ms2, ms3, ms4, xmw, rmw, -⟩ := cw_ok (g := g) (x := tI (tI x1 24 0 (x.1 24 0 + 1)) 24 2 (nI ((g.1 0 5) + 1))) (r := sA (sA (frR (sA r 96 (4 * i + k) (nI (s - q))) (g.1 0 5) (nI i) (-1) (nI k) (nI j)) 129 (g.1 0 5) (nI q)) 130 (g.1 0 5) 1) hk hag hq2
  have hfr := frR_n (r := sA r 96 (4 * i + k) (nI (s - q))) (n := (g.1 0 5)) (dd := nI i) (oo := -1) (mm := nI k) (ss := nI j) hn
  have hcr : ∀ (r1 : rS), (cwR r1 k ag q).2.2.1 123 = (r1.2.2.1 123) := fun r1 => rfl
  have hkq : ∀ m, m < 5 → (kqR (cwR (sA (sA (frR (sA r 96 (4 * i + k) (nI (s - q))) (g.1 0 5) (nI i) (-1) (nI k) (nI j)) 129 (g.1 0 5) (nI q)) 130 (g.1 0 5) 1) k ag q) (g.1 0 5) 5).2.2.1 123 (240 * (g.1 0 5) + m) = (cwR (sA (sA (frR (sA r 96 (4 * i + k) (nI (s - q))) (g.1 0 5) (nI i) (-1) (nI k) (nI j)) 129 (g.1 0 5) (nI q)) 130 (g.1 0 5) 1) k ag q).2.2.1 134 m := fun m hm => by
    unfold kqR
    rw [sR_s, wrF_i _ _ hm]
  generalize hR3 : sA (sA (frR (sA r 96 (4 * i + k) (nI (s - q))) (g.1 0 5) (nI i) (-1) (nI k) (nI j)) 129 (g.1 0 5) (nI q)) 130 (g.1 0 5) 1 = R3 at *
  have hcx : CLx R3 (sA r 96 (4 * i + k) (nI (s - q))) := by
    rw [← hR3]
    exact clx_t clx_isMoved (clx_t clx_carried clx_fr)
  have hc1 : Cl1 R3 (sA r 96 (4 * i + k) (nI (s - q))) (g.1 0 5) := by
    rw [← hR3]
    exact cl1_t cl1_isMoved (cl1_t cl1_carried cl1_fr)
  have hmv : R3.2.2.1 130 (g.1 0 5) = 1 ∧ R3.2.2.1 129 (g.1 0 5) = nI q := by
    rw [← hR3]
    exact ⟨sA_s _ _ _ _, by rw [sA_a _ _ _ (by decide), sA_s]⟩
  have hc2 : R3.1 57 = nI ((g.1 0 5) + 1) ∧ R3.2.2.1 114 (g.1 0 5) = nI i ∧ R3.2.2.1 115 (g.1 0 5) = -1 ∧ R3.2.2.1 116 (g.1 0 5) = nI k ∧ R3.2.2.1 117 (g.1 0 5) = nI j ∧ R3.2.2.1 118 (g.1 0 5) = 0 ∧ R3.2.2.1 119 (g.1 0 5) = -1 ∧ R3.2.2.1 120 (g.1 0 5) = 0 ∧ R3.2.2.1 121 (g.1 0 5) = 0 ∧ R3.2.2.1 122 (g.1 0 5) = (r.1 75) ∧ R3.2.2.1 125 (g.1 0 5) = 0 ∧ R3.2.2.1 126 (g.1 0 5) = 0 ∧ R3.2.2.1 131 (g.1 0 5) = 0 ∧ (R3.2.2.1 143 (g.1 0 5) = 0 ∧ R3.2.2.1 143 (60 + (g.1 0 5)) = 0 ∧ R3.2.2.1 144 (g.1 0 5) = 0 ∧ R3.2.2.1 144 (60 + (g.1 0 5)) = 0) := by
    rw [← hR3]
    obtain ⟨y1, y2, y3, y4, y5, y6, y7, y8, y9, y10, y11, y12, y13, y14, -⟩ := hfr
    exact ⟨y1, y2, y3, y4, y5, y6, y7, y8, y9, y10, y11, y12, y13, y14⟩
  have hR5x : CLx (kqR (cwR R3 k ag q) (g.1 0 5) 5) (sA r 96 (4 * i + k) (nI (s - q))) := clx_t clx_kq (clx_t (clx_rm rmw) hcx)
  have hR51 : Cl1 (kqR (cwR R3 k ag q) (g.1 0 5) 5) (sA r 96 (4 * i + k) (nI (s - q))) (g.1 0 5) := cl1_t (cl1_kq (by omega)) (cl1_t (cl1_rm rmw) hc1)
  have hR52 : Cl2 (kqR (cwR R3 k ag q) (g.1 0 5) 5) ((r.1 75)) (g.1 0 5) i j 0 k 0 5 := by
    obtain ⟨y1, y2, y3, y4, y5, y6, y7, y8, y9, y10, y11, y12, y13, y14⟩ := hc2
    exact ⟨y1, y2, y3, y4, y5, y6, y7, y8, y9, y10, y11, y12, y13, y14, upN_s _ _ _⟩
  have hmv5 : (kqR (cwR R3 k ag q) (g.1 0 5) 5).2.2.1 130 (g.1 0 5) = 1 ∧ (kqR (cwR R3 k ag q) (g.1 0 5) 5).2.2.1 129 (g.1 0 5) = nI q := hmv
  have hR53 : Cl3 g (kqR (cwR R3 k ag q) (g.1 0 5) 5) (sA r 96 (4 * i + k) (nI (s - q))) (g.1 0 5) i j 0 k 5 := by
    refine ⟨by omega, fun m hm => ?_, ?_, ⟨ag, ag, Nat.le_refl _, hag, ?_, hags⟩, fun _ => ⟨rfl, ?_, q, hq1, hq2, ?_, ?_, hmv5.2⟩, fun z => absurd rfl z⟩
    · rw [hkq m hm]
      exact (wq5.2.2.2.2.2.1 m hm).1
    · rw [hkq 1 (by omega)]; exact ms1
    · rw [hkq 2 (by omega)]; exact ms2
    · have := hkq 0 (by omega)
      rw [Nat.add_zero] at this
      rw [this]; exact ms0
    · rw [hkq 3 (by omega)]; exact ms3
    · rw [hkq 4 (by omega)]; exact ms4
  have hW := mk_remote (n := (g.1 0 5)) (ca := i) (sv := j) (ob := 0) (cm := k) (ou := 0) (th := 0) (oa := 0) (L := 5) (XW := cwX (tI (tI x1 24 0 (x.1 24 0 + 1)) 24 2 (nI ((g.1 0 5) + 1))) k ag q) (B := fun m => (cwR R3 k ag q).2.2.1 134 m) (mv := nI q) hw0 rfl hn rfl rfl hg xmw (by omega) (fun m hm => wq5.2.2.2.2.2.1 m hm) hR5x hR51 hR52 hkq (Or.inr ⟨hmv5.1, rfl, q, hq1, hq2, hmv5.2⟩) (by rw [hmv5.1, hmv5.2, if_neg (by decide)]) hi hj hij ⟨by omega, fun _ => ⟨hk, hij⟩, fun z => absurd rfl z⟩ (by omega) hR53 (fun z => absurd rfl z)
  generalize hXW : cwX (tI (tI x1 24 0 (x.1 24 0 + 1)) 24 2 (nI ((g.1 0 5) + 1))) k ag q = XW at *
  have ha2 : (hset h ((g.1 4) i + 3) k (.int (nI (s - q)))).1 = h.1 := rfl
  rw [ha2] at hW
  have hcn : (clG (gP g1 h2.1 2 (0, 0, 0) (5, fun k => XW.1 71 k)) (g.1 0 5) h.1 h2.1 i j 0 k 0 5).1 6 (g.1 0 5) = h.1 := clG_caln
  obtain ⟨gF, rF, xF, hF, f1, f2, f3, f4, f5, f6, f7, ⟨f8, f9⟩, f10, f11⟩ := snd_req (c := (g.1 0 5)) hW (by show (g.1 0 5) < (g.1 0 5) + 1; omega) (by rw [clG_can, clG_svn]; exact hij)
  rw [hcn] at f8 f9 f10
  have bd1 : hF.1 ≤ h.1 + 1100 := by rw [f5, hs_1, hn_1, hs_1, hs_1]; omega
  have bd2 : hF.2.1 ≤ h.2.1 + 14000 := by rw [f6, hs_u, hn_u, hs_u, hs_u]; omega
  have hhF : 146 ≤ hF.1 := by rw [f5, hs_1, hn_1, hs_1, hs_1]; omega
  have hal : h.1 < hF.1 := by rw [f5, hs_1, hn_1, hs_1, hs_1]; omega
  refine same_of (v := some (.int (nI (g.1 0 5)))) f4 (fun d Q => ?_) (fun d H Q hh => ?_) bd1 bd2
  · -- the class
    have step1 : Go (d + 100) 167 0 [.ref 5, .int (nI i), .int (nI j), .int (nI k), .int (nI q), mk0, mk0, mk0] [] (putR r (putX x h)) Q = Go (d + 100) 167 113 [.ref 5, .int (nI i), .int (nI j), .int (nI k), .int (nI q), .ref ((g.1 4) i), .ref ((g.1 4) j), mk0] [.ref h.1] (putR r (putX (tI (tI x1 24 0 (x.1 24 0 + 1)) 24 2 (nI ((g.1 0 5) + 1))) (hset h2 (x1.2 6) (g.1 0 5) (.ref h.1)))) Q := by
      have hadd' := fun Q => hadd (d + 91) r Q
      simp only [pv_0, hs_1] at hadd'
      simp (disch := first | exact c1_i _ | exact c1_r _ | exact c1_n | exact c1_m | omega | assumption | (apply ac_l; omega) | (apply ac_r; omega) | decide | exact Or.inl rfl) only [e_167_0, e_167_0n, e_167_1, e_167_2, e_167_5, e_167_5n, e_167_7, e_167_7n, e_167_8, e_167_9, e_167_12, e_167_12n, e_167_14, e_167_14n, e_167_16n, e_167_16, e_167_19, e_167_19n, e_167_21n, e_167_21, e_167_24, e_167_26, e_167_27, e_167_28, e_167_31, e_167_32, e_167_33, e_167_36, e_167_38, e_167_39, e_167_42, e_167_44, e_167_47, e_167_50, e_167_52, e_167_53, e_167_53n, e_167_55, e_167_55n, e_167_57, e_167_57nr, e_167_57rn, e_167_57nn, e_167_60, e_167_60n, e_167_62, e_167_65, e_167_66, e_167_67, e_167_69, e_167_72, e_167_74, e_167_75, e_167_75n, e_167_76, e_167_79, e_167_82, e_167_84, e_167_87, e_167_89, e_167_90, e_167_90n, e_167_92, e_167_95, e_167_96, e_167_97, e_167_98, e_167_100, e_167_101, e_167_102, e_167_102n, e_167_103, e_167_103n, e_167_105, e_167_105n, e_167_107, e_167_108, e_167_109, e_167_110, Option.toList_some, Option.toList_none, List.cons_append, List.nil_append, catS_cons, catS_nil, cat_int, cat_long, cat_ref, cat_null, c1_i, c1_r, c1_n, c1_m, true_and, and_true, and_self, putR_1, putR_u, eq_self, Nat.reduceLT, Nat.reduceLeDiff, Nat.reduceAdd, Nat.reduceEqDiff, vk_i, vk_l, vk_r, vk_n, vk_0, vk_1, if_true, if_false, not_true_eq_false, not_false_eq_true, false_and, and_false, ne_eq, true_or, or_true, ite_not, reduceCtorEq, putX_1, putX_u, putX_hi, hset_Xhi, px_5, xf_5_0, xf_5_1, xI_5_1, xf_5_2, xR_0, xf_5_3, xI_5_3, xf_5_4, xI_5_4, xf_5_5, xf_5_6, xI_5_6, xf_5_7, xf_5_8, xf_5_9, xf_5_10, xf_5_11, xf_5_12, xf_5_13, xf_5_14, xf_5_15, xI_5_15, px_6, xA_6, px_18, xA_18, px_19, xf_19_0, xI_19_0, xf_19_1, xR_1, xf_19_2, xI_19_2, px_20, xf_20_0, xI_20_0, xf_20_1, xR_2, xf_20_2, xI_20_2, px_21, xf_21_0, xI_21_0, xf_21_1, xR_3, xf_21_2, xI_21_2, px_22, xf_22_0, xI_22_0, xf_22_1, xR_4, xf_22_2, xI_22_2, px_23, xf_23_0, xI_23_0, xf_23_1, xR_5, xf_23_2, xI_23_2, px_24, xf_24_0, xI_24_0, xf_24_1, xR_6, xf_24_2, xI_24_2, px_25, xf_25_0, xI_25_0, xf_25_1, xI_25_1, xf_25_2, xf_25_3, xI_25_3, xf_25_4, xf_25_5, xf_25_6, px_26, xA_26, px_27, px_28, xA_28, px_29, xA_29, px_30, xA_30, px_31, xA_31, px_32, xA_32, px_33, xA_33, px_34, xA_34, px_35, xA_35, px_36, xA_36, px_37, xA_37, px_38, xA_38, px_39, xA_39, px_40, xA_40, px_41, xA_41, px_42, xA_42, px_43, xA_43, px_44, xA_44, px_45, xA_45, px_46, xA_46, px_47, xA_47, px_48, xA_48, px_49, xA_49, px_50, xA_50, px_51, xA_51, px_52, xA_52, px_53, xA_53, px_54, xA_54, px_55, xA_55, px_56, xA_56, px_57, xA_57, px_58, xA_58, px_59, xA_59, px_60, xA_60, px_61, xA_61, px_62, xA_62, px_63, xA_63, px_64, xA_64, px_65, xA_65, px_66, xA_66, px_67, xA_67, px_68, xA_68, px_69, xA_69, px_70, xf_70_0, xI_70_0, xf_70_1, xI_70_1, xf_70_2, xI_70_2, xf_70_3, xf_70_4, px_71, xA_71, px_72, xA_72, ni_ixL, ni_clL, ni_add, ni_mul, ni_lt, ni_le, ni_eq, ni_clamp, ni_ix, ni_lt0, ni_0le, ni_ltL, ni_Llt, ni_leL, ni_Lle, ni_eqL, ni_addL, ni_Ladd, ni_mulL, ni_Lmul, ni_subL, ni_sub, ni_Lsub, le_t, le_f, lt_t, lt_f, eq_f, il_lt, il_l0, il_g0, il_l1, il_g1, il_l2, il_g2, il_l3, il_g3, il_l4, il_g4, il_l5, il_g5, il_l7, il_g7, il_l8, il_g8, il_l9, il_g9, il_l10, il_g10, il_l15, il_g15, il_l20, il_g20, il_l23, il_g23, il_l24, il_g24, il_l60, il_g60, il_l100, il_g100, il_l999, il_g999, il_l1000, il_g1000, putR_lo, hset_lo, putR_lt hh, rd_hi, wr_hi, hs_1, hs_s, hs_o, uv_s, uv_o, pv_0, pv_n, i1_0, bs_0, bs_1, im_lt, im_ge, im_eq, ni_em, x_desk_i hw hi, x_desk_i hw hj, d_eq hw.1 hi hj, hij, kt, k7, p3, p4, p6, x_size_call hw, hadd']
    have hq0 := wq_0 (g := g) (x := tI (tI x1 24 0 (x.1 24 0 + 1)) 24 2 (nI ((g.1 0 5) + 1))) (r := r) (ml := fun _ => 0)
    obtain ⟨y1, -, -⟩ := wq_1 hq0 (n := 250) (by omega) (by omega)
    obtain ⟨y4, -, -⟩ := wq_1 y1 (n := k) (by omega) (by omega)
    obtain ⟨y7, -, -⟩ := wq_1 y4 (n := ag) (by omega) (by omega)
    have hhb : 146 ≤ (hset (hset h2 (x1.2 6) (g.1 0 5) (.ref h.1)) h.1 10 (.int (nI q))).1 := by rw [hs_1, hs_1]; omega
    have p0 := fun Q => x_begin (d := d + 98) (r0 := r) (x := tI (tI x1 24 0 (x.1 24 0 + 1)) 24 2 (nI ((g.1 0 5) + 1))) (Q := Q) hhb
    have p1' := fun Q => x_put1 (d := d + 98) (r0 := r) (Q := Q) (v := (nI 250).toInt64) hhb hq0.2.2.1 (by omega)
    have p1'' : ∀ Q, Go (d + 98 + 1) 92 0 [.ref 70, .long 250, mk0, .int 1, mk0] [] _ Q = _ := p1'
    have p2' := fun Q => x_put1 (d := d + 98) (r0 := r) (Q := Q) (v := (nI k).toInt64) hhb y1.2.2.1 (by omega)
    have p3' := fun Q => x_put1 (d := d + 98) (r0 := r) (Q := Q) (v := (nI ag).toInt64) hhb y4.2.2.1 (by omega)
    have p4' := fun Q => x_putN (d := d + 98) (r0 := r) (Q := Q) (n := 2) (v := (nI q).toInt64) hhb y7.2.2.1 (by omega) (by omega)
    have p4'' : ∀ Q, Go (d + 98 + 1) 92 0 [.ref 70, .long (nI q).toInt64, mk0, .int 2, mk0] [] _ Q = _ := p4'
    have hXW' := hXW
    unfold cwX at hXW'
    rw [hXW'] at p4''
    simp only [Nat.reduceAdd] at p1'' p2' p3' p4''
    have bt2 : (h2.2.2 ((g.1 4) j)).1 = 4 := by rw [hjc]; exact bt
    have bq2 : (h2.2.2 ((g.1 4) j)).2.2 1 = .int (nI ag) := by rw [hjc]; exact bq1
    have hcl : (hset h2 (x1.2 6) (g.1 0 5) (.ref h.1)).2.2 h.1 = h2.2.2 h.1 := hs_o _ _ (Ne.symm hael)
    have hct : (h2.2.2 h.1).1 = 3 := by rw [hcel]; exact cc.1
    have hjcl : (hset (hset h2 (x1.2 6) (g.1 0 5) (.ref h.1)) h.1 10 (.int (nI q))).2.2 ((g.1 4) j) = h.2.2 ((g.1 4) j) := by rw [hs_o _ _ (by omega), hs_o _ _ hjel, hjc]
    have pw := fun Q => x_written (d := d + 98) (r0 := r) (x := XW) (h := hset (hset h2 (x1.2 6) (g.1 0 5) (.ref h.1)) h.1 10 (.int (nI q))) (L := 5) (Q := Q) hhb wq5.2.2.1 (by omega)
    have hfx := fun Q => f10 (d + 93) r Q
    have hne5 : h.1 ≠ h2.1 := by omega
    have hah2 : h.1 < h2.1 := by omega
    rw [step1]
    have step2 : Go (d + 100) 167 113 [.ref 5, .int (nI i), .int (nI j), .int (nI k), .int (nI q), .ref ((g.1 4) i), .ref ((g.1 4) j), mk0] [.ref h.1] (putR r (putX (tI (tI x1 24 0 (x.1 24 0 + 1)) 24 2 (nI ((g.1 0 5) + 1))) (hset h2 (x1.2 6) (g.1 0 5) (.ref h.1)))) Q = Go (d + 100) 167 193 [.ref 5, .int (nI i), .int (nI j), .int (nI k), .int (nI q), .ref ((g.1 4) i), .ref ((g.1 4) j), .ref h.1] [] (putR r (putX xF hF)) Q := by
      have hh2 : 146 ≤ h2.1 := by omega
      have hh := hh2
      have hb2' : (g.1 4) j < h2.1 := by omega
      simp (disch := first | exact c1_i _ | exact c1_r _ | exact c1_n | exact c1_m | omega | assumption | (simp only [hn_1, hs_1, hC_1]; omega) | (apply ac_l; omega) | (apply ac_r; omega) | decide | exact Or.inl rfl) only [e_167_113, e_167_113n, e_167_115, e_167_115n, e_167_117, e_167_119, e_167_122, e_167_122n, e_167_123, e_167_126, e_167_129, e_167_129n, e_167_130, e_167_133, e_167_136, e_167_137, e_167_140, e_167_140n, e_167_141, e_167_144, e_167_145, e_167_146, e_167_147, e_167_150, e_167_150n, e_167_151, e_167_154, e_167_154n, e_167_156, e_167_159, e_167_160, e_167_161, e_167_164, e_167_164n, e_167_165, e_167_168, e_167_170, e_167_171, e_167_172, e_167_175, e_167_175n, e_167_177, e_167_177n, e_167_178, e_167_181, e_167_184, e_167_187, e_167_187n, e_167_188, e_167_188n, e_167_190, Option.toList_some, Option.toList_none, List.cons_append, List.nil_append, catS_cons, catS_nil, cat_int, cat_long, cat_ref, cat_null, c1_i, c1_r, c1_n, c1_m, true_and, and_true, and_self, putR_1, putR_u, eq_self, Nat.reduceLT, Nat.reduceLeDiff, Nat.reduceAdd, Nat.reduceEqDiff, vk_i, vk_l, vk_r, vk_n, vk_0, vk_1, if_true, if_false, not_true_eq_false, not_false_eq_true, false_and, and_false, ne_eq, true_or, or_true, ite_not, reduceCtorEq, putX_1, putX_u, putX_hi, hset_Xhi, px_5, xf_5_0, xf_5_1, xI_5_1, xf_5_2, xR_0, xf_5_3, xI_5_3, xf_5_4, xI_5_4, xf_5_5, xf_5_6, xI_5_6, xf_5_7, xf_5_8, xf_5_9, xf_5_10, xf_5_11, xf_5_12, xf_5_13, xf_5_14, xf_5_15, xI_5_15, px_6, xA_6, px_18, xA_18, px_19, xf_19_0, xI_19_0, xf_19_1, xR_1, xf_19_2, xI_19_2, px_20, xf_20_0, xI_20_0, xf_20_1, xR_2, xf_20_2, xI_20_2, px_21, xf_21_0, xI_21_0, xf_21_1, xR_3, xf_21_2, xI_21_2, px_22, xf_22_0, xI_22_0, xf_22_1, xR_4, xf_22_2, xI_22_2, px_23, xf_23_0, xI_23_0, xf_23_1, xR_5, xf_23_2, xI_23_2, px_24, xf_24_0, xI_24_0, xf_24_1, xR_6, xf_24_2, xI_24_2, px_25, xf_25_0, xI_25_0, xf_25_1, xI_25_1, xf_25_2, xf_25_3, xI_25_3, xf_25_4, xf_25_5, xf_25_6, px_26, xA_26, px_27, px_28, xA_28, px_29, xA_29, px_30, xA_30, px_31, xA_31, px_32, xA_32, px_33, xA_33, px_34, xA_34, px_35, xA_35, px_36, xA_36, px_37, xA_37, px_38, xA_38, px_39, xA_39, px_40, xA_40, px_41, xA_41, px_42, xA_42, px_43, xA_43, px_44, xA_44, px_45, xA_45, px_46, xA_46, px_47, xA_47, px_48, xA_48, px_49, xA_49, px_50, xA_50, px_51, xA_51, px_52, xA_52, px_53, xA_53, px_54, xA_54, px_55, xA_55, px_56, xA_56, px_57, xA_57, px_58, xA_58, px_59, xA_59, px_60, xA_60, px_61, xA_61, px_62, xA_62, px_63, xA_63, px_64, xA_64, px_65, xA_65, px_66, xA_66, px_67, xA_67, px_68, xA_68, px_69, xA_69, px_70, xf_70_0, xI_70_0, xf_70_1, xI_70_1, xf_70_2, xI_70_2, xf_70_3, xf_70_4, px_71, xA_71, px_72, xA_72, ni_ixL, ni_clL, ni_add, ni_mul, ni_lt, ni_le, ni_eq, ni_clamp, ni_ix, ni_lt0, ni_0le, ni_ltL, ni_Llt, ni_leL, ni_Lle, ni_eqL, ni_addL, ni_Ladd, ni_mulL, ni_Lmul, ni_subL, ni_sub, ni_Lsub, le_t, le_f, lt_t, lt_f, eq_f, il_lt, il_l0, il_g0, il_l1, il_g1, il_l2, il_g2, il_l3, il_g3, il_l4, il_g4, il_l5, il_g5, il_l7, il_g7, il_l8, il_g8, il_l9, il_g9, il_l10, il_g10, il_l15, il_g15, il_l20, il_g20, il_l23, il_g23, il_l24, il_g24, il_l60, il_g60, il_l100, il_g100, il_l999, il_g999, il_l1000, il_g1000, putR_lo, hset_lo, putR_lt hh, rd_hi, wr_hi, hs_1, hs_s, hs_o, uv_s, uv_o, pv_0, pv_n, i1_0, bs_0, bs_1, im_lt, im_ge, im_eq, ni_em, nw_hi, hn_1, hn_s, hn_o, ni_Ll0, hcl, hct, p0, p1'', p2', p3', p4'', bt2, bq2, pw, hfx]
    rw [step2]
    have hh := hhF
    simp (disch := first | exact c1_i _ | exact c1_r _ | exact c1_n | exact c1_m | omega | assumption | (apply ac_l; omega) | (apply ac_r; omega) | decide | exact Or.inl rfl) only [e_167_193, e_167_193n, e_167_195, e_167_198, Option.toList_some, Option.toList_none, List.cons_append, List.nil_append, catS_cons, catS_nil, cat_int, cat_long, cat_ref, cat_null, c1_i, c1_r, c1_n, c1_m, true_and, and_true, and_self, putR_1, putR_u, eq_self, Nat.reduceLT, Nat.reduceLeDiff, Nat.reduceAdd, Nat.reduceEqDiff, vk_i, vk_l, vk_r, vk_n, vk_0, vk_1, if_true, if_false, not_true_eq_false, not_false_eq_true, false_and, and_false, ne_eq, true_or, or_true, ite_not, reduceCtorEq, putX_1, putX_u, putX_hi, hset_Xhi, px_5, xf_5_0, xf_5_1, xI_5_1, xf_5_2, xR_0, xf_5_3, xI_5_3, xf_5_4, xI_5_4, xf_5_5, xf_5_6, xI_5_6, xf_5_7, xf_5_8, xf_5_9, xf_5_10, xf_5_11, xf_5_12, xf_5_13, xf_5_14, xf_5_15, xI_5_15, px_6, xA_6, px_18, xA_18, px_19, xf_19_0, xI_19_0, xf_19_1, xR_1, xf_19_2, xI_19_2, px_20, xf_20_0, xI_20_0, xf_20_1, xR_2, xf_20_2, xI_20_2, px_21, xf_21_0, xI_21_0, xf_21_1, xR_3, xf_21_2, xI_21_2, px_22, xf_22_0, xI_22_0, xf_22_1, xR_4, xf_22_2, xI_22_2, px_23, xf_23_0, xI_23_0, xf_23_1, xR_5, xf_23_2, xI_23_2, px_24, xf_24_0, xI_24_0, xf_24_1, xR_6, xf_24_2, xI_24_2, px_25, xf_25_0, xI_25_0, xf_25_1, xI_25_1, xf_25_2, xf_25_3, xI_25_3, xf_25_4, xf_25_5, xf_25_6, px_26, xA_26, px_27, px_28, xA_28, px_29, xA_29, px_30, xA_30, px_31, xA_31, px_32, xA_32, px_33, xA_33, px_34, xA_34, px_35, xA_35, px_36, xA_36, px_37, xA_37, px_38, xA_38, px_39, xA_39, px_40, xA_40, px_41, xA_41, px_42, xA_42, px_43, xA_43, px_44, xA_44, px_45, xA_45, px_46, xA_46, px_47, xA_47, px_48, xA_48, px_49, xA_49, px_50, xA_50, px_51, xA_51, px_52, xA_52, px_53, xA_53, px_54, xA_54, px_55, xA_55, px_56, xA_56, px_57, xA_57, px_58, xA_58, px_59, xA_59, px_60, xA_60, px_61, xA_61, px_62, xA_62, px_63, xA_63, px_64, xA_64, px_65, xA_65, px_66, xA_66, px_67, xA_67, px_68, xA_68, px_69, xA_69, px_70, xf_70_0, xI_70_0, xf_70_1, xI_70_1, xf_70_2, xI_70_2, xf_70_3, xf_70_4, px_71, xA_71, px_72, xA_72, ni_ixL, ni_clL, ni_add, ni_mul, ni_lt, ni_le, ni_eq, ni_clamp, ni_ix, ni_lt0, ni_0le, ni_ltL, ni_Llt, ni_leL, ni_Lle, ni_eqL, ni_addL, ni_Ladd, ni_mulL, ni_Lmul, ni_subL, ni_sub, ni_Lsub, le_t, le_f, lt_t, lt_f, eq_f, il_lt, il_l0, il_g0, il_l1, il_g1, il_l2, il_g2, il_l3, il_g3, il_l4, il_g4, il_l5, il_g5, il_l7, il_g7, il_l8, il_g8, il_l9, il_g9, il_l10, il_g10, il_l15, il_g15, il_l20, il_g20, il_l23, il_g23, il_l24, il_g24, il_l60, il_g60, il_l100, il_g100, il_l999, il_g999, il_l1000, il_g1000, putR_lo, hset_lo, putR_lt hh, rd_hi, wr_hi, hs_1, hs_s, hs_o, uv_s, uv_o, pv_0, pv_n, i1_0, bs_0, bs_1, im_lt, im_ge, im_eq, ni_em, f8, f9]
  · -- the reference
    have hn0 : (sA r 96 (4 * i + k) (nI (s - q))).1 57 = nI (g.1 0 5) := n1
    have e0 := fun Q => r_fresh0 (d := d + 97) (h := H) (Q := Q) (dd := nI i) (oo := -1) (mm := nI k) (ss := nI j) hh hn0 hn
    have hR3' : ∀ H, putR (sA (sA (frR (sA r 96 (4 * i + k) (nI (s - q))) (g.1 0 5) (nI i) (-1) (nI k) (nI j)) 129 (g.1 0 5) (nI q)) 130 (g.1 0 5) 1) H = putR R3 H := fun H => by rw [hR3]
    have hq0 := wq_0 (g := g) (x := x) (r := R3) (ml := fun _ => 0)
    obtain ⟨y1, -, -⟩ := wq_1 hq0 (n := 250) (by omega) (by omega)
    obtain ⟨y4, -, -⟩ := wq_1 y1 (n := k) (by omega) (by omega)
    obtain ⟨y7, -, -⟩ := wq_1 y4 (n := ag) (by omega) (by omega)
    have p0 := fun Q => r_begin (d := d + 98) (r := R3) (h := H) (Q := Q) hh
    have p1' := fun Q => r_oct1 (d := d + 98) (h := H) (Q := Q) (c := 250) (v := (nI 250).toInt64) hh (il_32 (nI 250)).symm hq0.2.2.2.1 (by omega)
    have p2' := fun Q => r_oct1 (d := d + 98) (h := H) (Q := Q) (v := (nI k).toInt64) hh (il_32 _).symm y1.2.2.2.1 (by omega)
    have p3' := fun Q => r_oct1 (d := d + 98) (h := H) (Q := Q) (v := (nI ag).toInt64) hh (il_32 _).symm y4.2.2.2.1 (by omega)
    have p4' := fun Q => r_octs (d := d + 97) (h := H) (Q := Q) (n := 2) (v := (nI q).toInt64) hh y7.2.2.2.1 (by omega) (by omega)
    have p4'' : ∀ Q, Go (d + 97 + 2) 228 0 [.ref 73, .long (nI q).toInt64, mk0, .int 2, mk0] [] _ Q = Q none (putR (cwR R3 k ag q) H) := p4'
    have p5 := fun Q => r_keep (d := d + 98) (r := cwR R3 k ag q) (h := H) (n := (g.1 0 5)) (L := 5) (Q := Q) hh hn wq5.2.2.2.1 (by omega)
    have p6' := fun Q => f11 (d + 94) H Q hh
    have eag : (msR (msR (sI (sI (sI R3 81 0) 82 0) 84 0) 0 (bN (nI 250).toInt64 1) 1) (0 + 1) (bN (nI k).toInt64 1) 1).2.2.1 93 j = nI ag := by
      show R3.2.2.1 93 j = _
      rw [← hR3]
      exact hags
    have hn60 : ¬ (g.1 0 5) = 60 := by omega
    simp (disch := first | exact c1_i _ | exact c1_r _ | exact c1_n | exact c1_m | omega | assumption | (apply ac_l; omega) | (apply ac_r; omega) | decide | exact Or.inl rfl) only [e_285_0, e_285_0n, e_285_1, e_285_2, e_285_5, e_285_8, e_285_8n, e_285_9, e_285_10, e_285_13, e_285_16, e_285_19, e_285_20, e_285_21, e_285_22, e_285_23, e_285_26, e_285_29, e_285_32, e_285_34, e_285_35, e_285_36, e_285_39, e_285_42, e_285_45, e_285_47, e_285_48, e_285_49, e_285_50, e_285_53, e_285_53n, e_285_54, e_285_57, e_285_58, e_285_59, e_285_60, e_285_61, e_285_62, e_285_63, e_285_65, e_285_68, e_285_71, e_285_72, e_285_72n, e_285_73, e_285_76, e_285_78, e_285_81, e_285_83, e_285_84, e_285_84n, e_285_85, e_285_88, e_285_89, e_285_90, e_285_91, e_285_92, e_285_93, e_285_94, e_285_95, e_285_97, e_285_98, e_285_99, e_285_99n, e_285_100, e_285_101, e_285_102, e_285_103, e_285_104, e_285_107, e_285_109, e_285_109n, e_285_110, e_285_113, e_285_115, e_285_117, e_285_118, e_285_118n, e_285_119, e_285_122, e_285_124, e_285_125, e_285_126, e_285_126n, e_285_127, e_285_130, e_285_130n, e_285_131, e_285_134, e_285_137, e_285_137n, e_285_138, e_285_139, e_285_142, e_285_142n, e_285_143, e_285_143n, e_285_144, e_285_147, e_285_148, e_285_149, e_285_152, e_285_152n, e_285_153, e_285_155, e_285_156, e_285_157, e_285_160, e_285_160n, e_285_161, e_285_163, e_285_166, e_285_166n, e_285_167, e_285_169, e_285_172, e_285_174, Option.toList_some, Option.toList_none, List.cons_append, List.nil_append, catS_cons, catS_nil, cat_int, cat_long, cat_ref, cat_null, c1_i, c1_r, c1_n, c1_m, true_and, and_true, and_self, putR_1, putR_u, eq_self, Nat.reduceLT, Nat.reduceLeDiff, Nat.reduceAdd, Nat.reduceEqDiff, vk_i, vk_l, vk_r, vk_n, vk_0, vk_1, if_true, if_false, not_true_eq_false, not_false_eq_true, false_and, and_false, ne_eq, true_or, or_true, ite_not, reduceCtorEq, pr_73, pr_74, pr_75, pr_76, pr_77, pr_78, pr_79, pr_80, pr_81, pr_82, pr_83, pr_84, pr_85, pr_86, pr_87, pr_88, pr_89, pr_90, pr_91, pr_92, pr_93, pr_94, pr_95, pr_96, pr_97, pr_98, pr_99, pr_100, pr_101, pr_102, pr_103, pr_104, pr_105, pr_106, pr_107, pr_108, pr_109, pr_110, pr_111, pr_112, pr_113, pr_114, pr_115, pr_116, pr_117, pr_118, pr_119, pr_120, pr_121, pr_122, pr_123, pr_124, pr_125, pr_126, pr_127, pr_128, pr_129, pr_130, pr_131, pr_132, pr_133, pr_134, pr_135, pr_136, pr_137, pr_138, pr_139, pr_140, pr_141, pr_142, pr_143, pr_144, pr_145, rf_0, rf_1, hI_1, rf_2, hI_2, rf_3, hI_3, rf_4, hI_4, rf_5, hI_5, rf_6, hI_6, rf_7, hI_7, rf_8, rf_9, rf_10, rf_11, hI_11, rf_12, rf_13, rf_14, rf_15, rf_16, hI_16, rf_17, rf_18, rf_19, rf_20, rf_21, rf_22, rf_23, hI_23, rf_24, rf_25, rf_26, rf_27, rf_28, hI_28, rf_29, rf_30, hI_30, rf_31, rf_32, hI_32, rf_33, hI_33, rf_34, rf_35, rf_36, rf_37, rf_38, rf_39, rf_40, rf_41, hI_41, rf_42, rf_43, rf_44, rf_45, rf_46, rf_47, rf_48, rf_49, rf_50, hI_50, rf_51, rf_52, rf_53, rf_54, rf_55, rf_56, rf_57, hI_57, rf_58, rf_59, rf_60, rf_61, rf_62, rf_63, rf_64, rf_65, rf_66, rf_67, rf_68, rf_69, rf_70, rf_71, rf_72, rf_73, rf_74, rf_75, hI_75, rf_76, rf_77, rf_78, hI_78, rf_79, rf_80, rf_81, hI_81, rf_82, hI_82, rf_83, rf_84, hI_84, rf_85, rf_86, rf_87, hI_87, rf_88, hI_88, rf_89, hI_89, rf_90, hI_90, rf_91, rf_92, rf_93, rf_94, hI_94, rf_95, hI_95, rf_96, rf_97, rf_98, rf_99, rf_100, hset_W, hA_74, hL_75, hA_76, hL_77, hA_78, hL_79, hA_80, hL_81, hA_82, hL_83, hA_84, hA_85, hA_86, hL_87, hA_88, hA_89, hA_90, hA_91, hA_92, hA_93, hA_94, hA_95, hA_96, hA_97, hA_98, hA_99, hA_100, hA_101, hA_102, hA_103, hA_104, hA_105, hL_106, hA_107, hA_108, hA_109, hA_110, hA_111, hA_112, hA_113, hA_114, hA_115, hA_116, hA_117, hA_118, hA_119, hA_120, hA_121, hA_122, hA_123, hA_124, hA_125, hA_126, hA_127, hA_128, hA_129, hA_130, hA_131, hA_132, hA_133, hA_134, hA_135, hA_136, hA_137, hA_138, hA_139, hA_140, hA_141, hA_142, hA_143, hA_144, hA_145, ni_ixL, ni_clL, ni_add, ni_mul, ni_lt, ni_le, ni_eq, ni_clamp, ni_ix, ni_lt0, ni_0le, ni_ltL, ni_Llt, ni_leL, ni_Lle, ni_eqL, ni_addL, ni_Ladd, ni_mulL, ni_Lmul, ni_subL, ni_sub, ni_Lsub, le_t, le_f, lt_t, lt_f, eq_f, il_lt, il_l0, il_g0, il_l1, il_g1, il_l2, il_g2, il_l3, il_g3, il_l4, il_g4, il_l5, il_g5, il_l7, il_g7, il_l8, il_g8, il_l9, il_g9, il_l10, il_g10, il_l15, il_g15, il_l20, il_g20, il_l23, il_g23, il_l24, il_g24, il_l60, il_g60, il_l100, il_g100, il_l999, il_g999, il_l1000, il_g1000, r_in, putR_lt hh, sA_1, sA_s, i1_0, bs_0, bs_1, im_lt, im_ge, im_eq, ni_em, r_desk_i hh c1 hi c2, r_desk_i hh c1 hj c2, hij, hs, n1, hn60, e0, hR3', p0, p1', p2', p3', eag, p4'', p5, p6']
end
