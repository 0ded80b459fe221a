section
variable {K : Nat → pcell} {tb : Nat} {g g' g1 g2 g0 : gS} {r r' r0 r1 r2 s s' : rS} {x x' x1 x2 xb : xS} {h h' h1 h2 h0 : pheap} {a n k m i j c p q d A o b w z kp Z B : Nat} {Q : Option Value → pheap → Prop} {e v nt : Int32} {f F G : Nat → Int32} {O1 B1 S1 G1 O' B' S' G' : Nat → Int32}
theorem ft_icR : ftR r j = icR r (upN ((r.2.2.1 143)) j 0) (upN ((r.2.2.1 144)) j 0) ((r.2.2.1 142)) ((r.2.2.1 141)) := icR_2.symm
theorem pg_t (p : PG g g1 h h1) (q : PG g1 g2 h1 h2) : PG g g2 h h2 := ⟨p.1.trans q.1, p.2.1.trans q.2.1, fun a q0 q1 q2 => (p.2.2.1 a q0 q1 q2).trans (q.2.2.1 a q0 q1 q2), p.2.2.2.1.trans q.2.2.2.1, p.2.2.2.2.trans q.2.2.2.2⟩
/-- a part comes -/
theorem arr_ok (hw : World K tb g r x h) (hwl : w < 2) (hc : c < (g.1 0 5)) (hrem : (g.2.2.2.2.2 14) c ≠ (g.2.2.2.2.2 15) c) (hic : (g.2.2.2.2.2 23) (60 * w + c) ≠ 0) (hp : p < m) (hm10 : m ≤ 10) (hz24 : z ≤ 24) (x3 : x.1 26 3 = nI p) (x4 : x.1 26 4 = nI m) (hx : ∀ k, k < z → x.1 26 (5 + k) = sb (f k)) (hmsg : (m = nP (zM g w c) ∧ z = cS (zM g w c) p ∧ (∀ k, k < z → f k = fM r w c (24 * p + k)) ∧ (w = 1 → (g.2.2.2.2.2 34) c ≠ 0) ∧ zM g w c ≤ 240) ∨ (w = 1 ∧ m = 1 ∧ z = 1 ∧ f 0 = 2)) :
    ∃ O1 B1 S1 G1, MA r w c p m z f O1 B1 S1 G1 ∧ (ArrNo K tb g r x h w c z O1 B1 S1 G1 ∨ ∃ Z F, ArrYes K tb g r x h w c m z O1 B1 S1 G1 Z F ∧ ((Z = zM g w c ∧ F = fM r w c ∧ (w = 1 → (g.2.2.2.2.2 34) c ≠ 0)) ∨ (w = 1 ∧ Z = 1 ∧ F 0 = 2))) := by
  have hh := sim_146 hw.1
  have hn60 := (w_nc hw).2.1
  have hj : 60 * w + c < 120 := by omega
  obtain ⟨hgM, hbl⟩ := gp_M hw hwl hc
  obtain ⟨v1, v2, v3, v4⟩ := ((w_way hw).2 c (by omega) w hwl).2.2 hc
  -- the reference, where no other message has parts here
  have hMA : ((g.2.2.2.2.2 31) (60 * w + c) = 0 ∨ (g.2.2.2.2.2 30) (60 * w + c) = m) → bt ((g.2.2.2.2.2 31) (60 * w + c)) p = false → MA r w c p m z f (upN ((r.2.2.1 143)) (60 * w + c) (nI m)) (upN ((r.2.2.1 144)) (60 * w + c) (nI ((g.2.2.2.2.2 31) (60 * w + c) ||| 2 ^ p))) (upN ((r.2.2.1 142)) (10 * (60 * w + c) + p) (nI z)) (wrF ((r.2.2.1 141)) f (240 * (60 * w + c) + 24 * p) z) := fun hB hbit s i d H Q hsg hi hs1 hs2 hH => by
    obtain ⟨g1, g2, g3, g4⟩ := hsg
    have e1 := r_arr0 (d := d) (r := s) (h := H) (m := m) (pp := nI p) (ii := nI i) (Q := Q) hH hwl (show c < 60 by omega) v2 v4 hm10 (by rw [g2]; exact v1) (by rw [g1]; exact v3)
    rw [if_neg (fun z => by rcases hB with y | y; exact z.1 y; exact z.2 y)] at e1
    rw [e1, r_arr49 (d := d + 1) (r := s) (m := m) (f := f) hH hj (by omega) hz24 hi v2 hs1 hs2 (by rw [g2]; exact v1), if_neg (by rw [hbit]; decide)]
    have e2 : arR s (60 * w + c) p m z ((g.2.2.2.2.2 31) (60 * w + c) ||| 2 ^ p) f = icR s (upN ((s.2.2.1 143)) (60 * w + c) (nI m)) (upN ((s.2.2.1 144)) (60 * w + c) (nI ((g.2.2.2.2.2 31) (60 * w + c) ||| 2 ^ p))) (upN ((s.2.2.1 142)) (10 * (60 * w + c) + p) (nI z)) (wrF ((s.2.2.1 141)) f (240 * (60 * w + c) + 24 * p) z) := rfl
    rw [e2, g1, g2, g3, g4]
  rcases hmsg with ⟨m1, m2, m3, m4, m5⟩ | ⟨rfl, rfl, rfl, m4⟩
  · have hB : (g.2.2.2.2.2 31) (60 * w + c) = 0 ∨ (g.2.2.2.2.2 30) (60 * w + c) = m := by
      by_cases e : (g.2.2.2.2.2 31) (60 * w + c) = 0
      · exact Or.inl e
      · exact Or.inr ((hgM e).1.trans m1.symm)
    by_cases hbit : bt ((g.2.2.2.2.2 31) (60 * w + c)) p = true
    · have hB0 : (g.2.2.2.2.2 31) (60 * w + c) ≠ 0 := fun y => by
        rw [y] at hbit
        unfold bt at hbit
        rw [Nat.zero_testBit] at hbit
        cases hbit
      have hom := hB.resolve_left hB0
      have eO : upN ((r.2.2.1 143)) (60 * w + c) (nI m) = (r.2.2.1 143) := by
        rw [← hom, ← v3]
        exact upN_i _ _
      refine ⟨upN ((r.2.2.1 143)) (60 * w + c) (nI m), (r.2.2.1 144), (r.2.2.1 142), (r.2.2.1 141), fun s i d H Q hsg hi hs1 hs2 hH => ?_, Or.inl ⟨g, h, by rw [eO, icR_i]; exact hw, ⟨rfl, rfl, fun _ _ _ _ => rfl, rfl, rfl⟩, ⟨(g.2.2.2.2.2 31) (60 * w + c), m, v1, v2, upN_s _ _ _, hm10, fun y => ?_⟩, fun d r0 Q => ?_⟩⟩
      · obtain ⟨g1, g2, g3, g4⟩ := hsg
        have e1 := r_arr0 (d := d) (r := s) (h := H) (m := m) (pp := nI p) (ii := nI i) (Q := Q) hH hwl (show c < 60 by omega) v2 v4 hm10 (by rw [g2]; exact v1) (by rw [g1]; exact v3)
        rw [if_neg (fun z => z.2 hom)] at e1
        rw [e1, r_arr49 (d := d + 1) (r := s) (m := m) (f := f) hH hj (by omega) hz24 hi v2 hs1 hs2 (by rw [g2]; exact v1), if_pos hbit]
        have e2 : icR s (upN ((s.2.2.1 143)) (60 * w + c) (nI m)) ((s.2.2.1 144)) ((s.2.2.1 142)) ((s.2.2.1 141)) = sA s 143 (60 * w + c) (nI m) := by
          rw [icR_2]
          exact sR_i (sR s 143 (upN ((s.2.2.1 143)) (60 * w + c) (nI m))) 144
        rw [← e2, g1, g2, g3, g4]
      · have := (hgM hB0).2.2.1
        rw [hom] at this
        exact this y.2
      · obtain ⟨a1, a2, t, q0, q1, q2, ⟨u3, q3, q3'⟩, q4, q5, q6, q7⟩ := s_inc hw.1 (i := 60 * w + c) ⟨hj, hic⟩
        obtain ⟨b1, b2, b3, b4, b5⟩ := s_ihe hw.1 (i := 60 * w + c) ⟨hj, hic⟩
        obtain ⟨c1, c2, -⟩ := s_iby hw.1 (i := 60 * w + c) ⟨hj, hic⟩
        obtain ⟨kp1, kp2⟩ := b_p10 _ hbl
        refine x_keep0 (d := d + 1) (kp := pcn ((g.2.2.2.2.2 31) (60 * w + c))) (m := m) (p := p) hh a1 (by omega) t q0 kp1 q3 (fun y => by rw [q3' hB0, hom]) q6 b3 b4 ?_ hp hm10 x3 x4
        rw [b5 p (by omega)]
        show Value.int (if bt ((g.2.2.2.2.2 31) (60 * w + c)) p = true then 1 else 0) = _
        rw [hbit]
        rfl
    · have hbit' : bt ((g.2.2.2.2.2 31) (60 * w + c)) p = false := by
        cases hb : bt ((g.2.2.2.2.2 31) (60 * w + c)) p
        · rfl
        · exact absurd hb hbit
      refine ⟨_, _, _, _, hMA hB hbit', ?_⟩
      rcases arr_new hw hwl hc hrem hic hB hbit' hp hm10 hz24 x3 x4 hx hgM m1 m2 m3 m5 (Or.inr ⟨rfl, rfl, m4⟩) with y | y
      · exact Or.inl y
      · exact Or.inr ⟨_, _, y, Or.inl ⟨rfl, rfl, m4⟩⟩
  · have hp0 : p = 0 := by omega
    subst hp0
    by_cases hB0 : (g.2.2.2.2.2 31) (60 * 1 + c) = 0
    · have hbit' : bt ((g.2.2.2.2.2 31) (60 * 1 + c)) 0 = false := by
        rw [hB0]
        unfold bt
        exact Nat.zero_testBit 0
      refine ⟨_, _, _, _, hMA (Or.inl hB0) hbit', ?_⟩
      rcases arr_new (Z := 1) (F := f) hw hwl hc hrem hic (Or.inl hB0) hbit' hp hm10 hz24 x3 x4 hx (fun y => absurd hB0 y) rfl rfl (fun k hk => by rw [show 24 * 0 + k = k by omega]) (by omega) (Or.inl (by rw [hB0]; rfl)) with y | y
      · exact Or.inl y
      · exact Or.inr ⟨1, f, y, Or.inr ⟨rfl, rfl, m4⟩⟩
    · -- parts of another message are forgotten
      obtain ⟨y1, y2, y3, y4⟩ := hgM hB0
      have hne : (g.2.2.2.2.2 30) (60 * 1 + c) ≠ 1 := fun y => by
        rw [y] at y2 y3
        have y2' : (g.2.2.2.2.2 31) (60 * 1 + c) < 2 := y2
        have y3' : (g.2.2.2.2.2 31) (60 * 1 + c) ≠ 1 := y3
        omega
      have hwF := w_fgt hw hwl hc hrem hic
      have hF0 : (ftG g (60 * 1 + c)).2.2.2.2.2 31 (60 * 1 + c) = 0 := upN_s _ _ _
      have hbit' : bt ((ftG g (60 * 1 + c)).2.2.2.2.2 31 (60 * 1 + c)) 0 = false := by
        rw [hF0]
        unfold bt
        exact Nat.zero_testBit 0
      have hne2 := arr_new (Z := 1) (F := f) hwF hwl hc hrem hic (Or.inl hF0) hbit' hp hm10 hz24 x3 x4 hx (fun y => absurd hF0 y) rfl rfl (fun k hk => by rw [show 24 * 0 + k = k by omega]) (by omega) (Or.inl (by rw [hF0]; rfl))
      rw [hF0] at hne2
      have hpgF : PG (ftG g (60 * 1 + c)) g (drH h ((g.2.2.2.2.2 23) (60 * 1 + c))) h := pg_ic rfl rfl
      have hXD : ∀ d r0 Q, Go (d + 2) 136 0 [.ref ((g.2.2.2.2.2 23) (60 * 1 + c)), .ref 26, .int (nI (5 + 1)), mk0, mk0, mk0, mk0] [] (putR r0 (putX x h)) Q = Go (d + 2) 136 0 [.ref ((g.2.2.2.2.2 23) (60 * 1 + c)), .ref 26, .int (nI (5 + 1)), mk0, mk0, mk0, mk0] [] (putR r0 (putX x (drH h ((g.2.2.2.2.2 23) (60 * 1 + c))))) Q := fun d r0 Q => by
        rw [x_keepD (m := 1) (p := 0) hw.1 ⟨hj, hic⟩ v4 ⟨hB0, hbl⟩ hne hp hm10 x3 x4]
        obtain ⟨a1, a2, t, q0, -⟩ := s_inc hwF.1 (i := 60 * 1 + c) ⟨hj, hic⟩
        rw [hF0] at q0
        have q0' : ((drH h ((g.2.2.2.2.2 23) (60 * 1 + c))).2.2 ((g.2.2.2.2.2 23) (60 * 1 + c))).2.2 0 = .int 0 := q0
        have hx1 : (drH h ((g.2.2.2.2.2 23) (60 * 1 + c))).1 = h.1 := rfl
        have a1' : 146 ≤ (g.2.2.2.2.2 23) (60 * 1 + c) := a1
        have a2' : (g.2.2.2.2.2 23) (60 * 1 + c) < (drH h ((g.2.2.2.2.2 23) (60 * 1 + c))).1 := a2
        have t' : ((drH h ((g.2.2.2.2.2 23) (60 * 1 + c))).2.2 ((g.2.2.2.2.2 23) (60 * 1 + c))).1 = 6 := t
        have i00 : ((0 : Int32) ≤ 0) = True := eq_true (by decide)
        generalize drH h ((g.2.2.2.2.2 23) (60 * 1 + c)) = hD at *
        have hh : 146 ≤ hD.1 := by omega
        have i1 : (nI 0 < nI 1) = True := eq_true (by decide)
        have i2 : (nI 1 ≤ nI 0) = False := eq_false (by decide)
        have i3 : (nI 1 ≤ (10 : Int32)) = True := eq_true (by decide)
        have i4 : (nI 0 < (0 : Int32)) = False := eq_false (by decide)
        simp (disch := first | exact c1_i _ | exact c1_r _ | exact c1_n | exact c1_m | omega | assumption | (apply ac_l; omega) | (apply ac_r; omega) | decide | exact Or.inl rfl) only [e_136_0, e_136_0n, e_136_1, e_136_2, e_136_3, e_136_4, e_136_4n, e_136_5, e_136_6, e_136_7, e_136_9, e_136_10, e_136_13, e_136_14, e_136_16, e_136_19, e_136_21, e_136_23, e_136_26, e_136_27, e_136_28, e_136_28n, e_136_29, e_136_32, e_136_35, e_136_37, e_136_37n, e_136_38, e_136_41, e_136_44, e_136_44n, e_136_45, Option.toList_some, Option.toList_none, List.cons_append, List.nil_append, catS_cons, catS_nil, cat_int, cat_long, cat_ref, cat_null, c1_i, c1_r, c1_n, c1_m, true_and, and_true, and_self, putR_1, putR_u, eq_self, Nat.reduceLT, Nat.reduceLeDiff, Nat.reduceAdd, Nat.reduceEqDiff, vk_i, vk_l, vk_r, vk_n, vk_0, vk_1, if_true, if_false, not_true_eq_false, not_false_eq_true, false_and, and_false, ne_eq, true_or, or_true, ite_not, reduceCtorEq, putX_1, putX_u, putX_hi, hset_Xhi, px_5, xf_5_0, xf_5_1, xI_5_1, xf_5_2, xR_0, xf_5_3, xI_5_3, xf_5_4, xI_5_4, xf_5_5, xf_5_6, xI_5_6, xf_5_7, xf_5_8, xf_5_9, xf_5_10, xf_5_11, xf_5_12, xf_5_13, xf_5_14, xf_5_15, xI_5_15, px_6, xA_6, px_18, xA_18, px_19, xf_19_0, xI_19_0, xf_19_1, xR_1, xf_19_2, xI_19_2, px_20, xf_20_0, xI_20_0, xf_20_1, xR_2, xf_20_2, xI_20_2, px_21, xf_21_0, xI_21_0, xf_21_1, xR_3, xf_21_2, xI_21_2, px_22, xf_22_0, xI_22_0, xf_22_1, xR_4, xf_22_2, xI_22_2, px_23, xf_23_0, xI_23_0, xf_23_1, xR_5, xf_23_2, xI_23_2, px_24, xf_24_0, xI_24_0, xf_24_1, xR_6, xf_24_2, xI_24_2, px_25, xf_25_0, xI_25_0, xf_25_1, xI_25_1, xf_25_2, xf_25_3, xI_25_3, xf_25_4, xf_25_5, xf_25_6, px_26, xA_26, px_27, px_28, xA_28, px_29, xA_29, px_30, xA_30, px_31, xA_31, px_32, xA_32, px_33, xA_33, px_34, xA_34, px_35, xA_35, px_36, xA_36, px_37, xA_37, px_38, xA_38, px_39, xA_39, px_40, xA_40, px_41, xA_41, px_42, xA_42, px_43, xA_43, px_44, xA_44, px_45, xA_45, px_46, xA_46, px_47, xA_47, px_48, xA_48, px_49, xA_49, px_50, xA_50, px_51, xA_51, px_52, xA_52, px_53, xA_53, px_54, xA_54, px_55, xA_55, px_56, xA_56, px_57, xA_57, px_58, xA_58, px_59, xA_59, px_60, xA_60, px_61, xA_61, px_62, xA_62, px_63, xA_63, px_64, xA_64, px_65, xA_65, px_66, xA_66, px_67, xA_67, px_68, xA_68, px_69, xA_69, px_70, xf_70_0, xI_70_0, xf_70_1, xI_70_1, xf_70_2, xI_70_2, xf_70_3, xf_70_4, px_71, xA_71, px_72, xA_72, ni_ixL, ni_clL, ni_add, ni_mul, ni_lt, ni_le, ni_eq, ni_clamp, ni_ix, ni_lt0, ni_0le, ni_ltL, ni_Llt, ni_leL, ni_Lle, ni_eqL, ni_addL, ni_Ladd, ni_mulL, ni_Lmul, ni_subL, ni_sub, ni_Lsub, le_t, le_f, lt_t, lt_f, eq_f, il_lt, il_l0, il_g0, il_l1, il_g1, il_l2, il_g2, il_l3, il_g3, il_l4, il_g4, il_l5, il_g5, il_l7, il_g7, il_l8, il_g8, il_l9, il_g9, il_l10, il_g10, il_l15, il_g15, il_l20, il_g20, il_l23, il_g23, il_l24, il_g24, il_l60, il_g60, il_l100, il_g100, il_l999, il_g999, il_l1000, il_g1000, putR_lo, hset_lo, putR_lt hh, rd_hi, wr_hi, hs_1, hs_s, hs_o, uv_s, uv_o, pv_0, pv_n, i1_0, bs_0, bs_1, im_lt, im_ge, im_eq, ni_em, x3, x4, t', q0', i00, i1, i2, i3, i4]
      have hMA2 : MA r 1 c 0 1 1 f (upN ((ftR r (60 * 1 + c)).2.2.1 143) (60 * 1 + c) (nI 1)) (upN ((ftR r (60 * 1 + c)).2.2.1 144) (60 * 1 + c) (nI (0 ||| 2 ^ 0))) (upN ((ftR r (60 * 1 + c)).2.2.1 142) (10 * (60 * 1 + c) + 0) (nI 1)) (wrF ((ftR r (60 * 1 + c)).2.2.1 141) f (240 * (60 * 1 + c) + 24 * 0) 1) := fun s i d H Q hsg hi hs1 hs2 hH => by
        obtain ⟨g1, g2, g3, g4⟩ := hsg
        have e1 := r_arr0 (d := d) (r := s) (h := H) (w := 1) (m := 1) (pp := nI 0) (ii := nI i) (Q := Q) hH hwl (show c < 60 by omega) v2 v4 hm10 (by rw [g2]; exact v1) (by rw [g1]; exact v3)
        rw [if_pos ⟨hB0, hne⟩] at e1
        have e3 : (ftR s (60 * 1 + c)).2.2.1 144 (60 * 1 + c) = nI 0 := sA_s _ _ _ _
        have hbz : ¬ bt 0 0 = true := by
          unfold bt
          rw [Nat.zero_testBit]
          decide
        rw [e1, r_arr49 (d := d + 1) (r := ftR s (60 * 1 + c)) (m := 1) (f := f) (B := 0) hH hj (by omega) hz24 hi (by omega) hs1 hs2 e3, if_neg hbz]
        have e2 : arR (ftR s (60 * 1 + c)) (60 * 1 + c) 0 1 1 (0 ||| 2 ^ 0) f = icR (ftR s (60 * 1 + c)) (upN ((ftR s (60 * 1 + c)).2.2.1 143) (60 * 1 + c) (nI 1)) (upN ((ftR s (60 * 1 + c)).2.2.1 144) (60 * 1 + c) (nI (0 ||| 2 ^ 0))) (upN ((ftR s (60 * 1 + c)).2.2.1 142) (10 * (60 * 1 + c) + 0) (nI 1)) (wrF ((ftR s (60 * 1 + c)).2.2.1 141) f (240 * (60 * 1 + c) + 24 * 0) 1) := rfl
        have f1 : (ftR s (60 * 1 + c)).2.2.1 143 = (ftR r (60 * 1 + c)).2.2.1 143 := by
          show upN ((s.2.2.1 143)) _ _ = upN ((r.2.2.1 143)) _ _
          rw [g1]
        have f2 : (ftR s (60 * 1 + c)).2.2.1 144 = (ftR r (60 * 1 + c)).2.2.1 144 := by
          show upN ((s.2.2.1 144)) _ _ = upN ((r.2.2.1 144)) _ _
          rw [g2]
        have f3 : (ftR s (60 * 1 + c)).2.2.1 142 = (ftR r (60 * 1 + c)).2.2.1 142 := g3
        have f4 : (ftR s (60 * 1 + c)).2.2.1 141 = (ftR r (60 * 1 + c)).2.2.1 141 := g4
        rw [e2, f1, f2, f3, f4]
        have e4 : ftR s (60 * 1 + c) = icR s (upN ((s.2.2.1 143)) (60 * 1 + c) 0) (upN ((s.2.2.1 144)) (60 * 1 + c) 0) ((s.2.2.1 142)) ((s.2.2.1 141)) := ft_icR
        rw [e4, ic_ic]
      refine ⟨_, _, _, _, hMA2, ?_⟩
      have e4 : ftR r (60 * 1 + c) = icR r (upN ((r.2.2.1 143)) (60 * 1 + c) 0) (upN ((r.2.2.1 144)) (60 * 1 + c) 0) ((r.2.2.1 142)) ((r.2.2.1 141)) := ft_icR
      rcases hne2 with ⟨g', h', z1, z2, z3, z4⟩ | ⟨g', h1, h', z1, z2, z3, z4, z5, z6, z7⟩
      · refine Or.inl ⟨g', h', ?_, pg_t z2 hpgF, z3, fun d r0 Q => (hXD d r0 Q).trans (z4 d r0 Q)⟩
        have := z1
        generalize (ftR r (60 * 1 + c)).2.2.1 = R1 at *
        rw [e4, ic_ic] at this
        exact this
      · refine Or.inr ⟨1, f, ⟨g', h1, h', ?_, pg_t z2 hpgF, z3, z4, z5, fun d r0 Q => (hXD d r0 Q).trans (z6 d r0 Q), z7⟩, Or.inr ⟨rfl, rfl, m4⟩⟩
        have := z1
        generalize (ftR r (60 * 1 + c)).2.2.1 = R1 at *
        rw [e4, ic_ic] at this
        exact this
end
