theorem nb_2 : ∀ q, q < 1001 → ((((0 : Int64) <<< ((8 : Int32).toInt64 &&& 63)) ||| (nI (q / 256)).toInt64) <<< ((8 : Int32).toInt64 &&& 63) ||| (nI (q % 256)).toInt64) = (nI q).toInt64 := by decide +kernel
section
variable {K : Nat → pcell} {tb : Nat} {g g' g1 g2 g0 : gS} {r r' r0 r1 r2 s s' : rS} {x x' x1 x2 xb : xS} {h h' h1 h2 h0 : pheap} {a n k m i j c p q d A o b w z kp Z B L : Nat} {Q : Option Value → pheap → Prop} {e v nt : Int32} {f F G : Nat → Int32}
/-- a call's deed has begun -/
theorem w_beg1 (hw : World K tb g r x h) (hc : c < (g.1 0 5)) (hag : (r.2.2.1 123) (240 * c + 2) = (r.2.2.1 93) ((g.2.2.2.2.2 15) c)) : World K tb g (sA r 125 c 1) x (hset h ((g.1 6) c) 9 (.int 1)) := by
  have hS := op_cbeg hw.1 hc 1
  obtain ⟨-, ⟨i1, i2, i3, i4, i5, i6, i7, i8, i9, i10⟩, ⟨m1, m2, m3, m4, m5⟩⟩ := hw
  have hn : ∀ j, j ≠ c → (sA r 125 c 1).2.2.1 125 j = (r.2.2.1 125) j := fun j hj => sA_K _ _ _ _ hj
  have hs : (sA r 125 c 1).2.2.1 125 c = 1 := sA_s _ _ _ _
  refine ⟨hS, ⟨i1, i2, i3, i4, i5, i6, i7, i8, fun j hj => ?_, i10⟩, m1, m2, m3, m4, fun j hj => ?_⟩
  · obtain ⟨u1, u2, u3, u4, u5, u6, u7, u8, u9, u10, u11, u12, u13, u14⟩ := i9 j hj
    refine ⟨u1, u2, u3, u4, u5, u6, u7, u8, u9, u10, u11, u12, ?_, u14⟩
    by_cases e : j = c
    · subst e
      rw [hs]
      exact Or.inr rfl
    · rw [hn j e]
      exact u13
  · obtain ⟨y1, y2, y3, y4, y5, y6⟩ := m5 j hj
    refine ⟨fun z1 z2 => ?_, fun z1 z2 => ?_, y3, y4, y5, y6⟩
    · by_cases e : j = c
      · subst e
        exact hag
      · rw [hn j e] at z2
        exact y1 z1 z2
    · by_cases e : j = c
      · subst e
        rw [hs]
        exact Or.inl rfl
      · rw [hn j e]
        exact y2 z1 z2
theorem w_cmv (hw : World K tb g r x h) (hc : c < (g.1 0 5)) : World K tb g (sA r 130 c 0) x (hset h ((g.1 6) c) 10 (.int 0)) := by
  have hS := op_cmv hw.1 hc
  obtain ⟨-, ⟨i1, i2, i3, i4, i5, i6, i7, i8, i9, i10⟩, ⟨m1, m2, m3, m4, m5⟩⟩ := hw
  have hn : ∀ j, j ≠ c → (sA r 130 c 0).2.2.1 130 j = (r.2.2.1 130) j := fun j hj => sA_K _ _ _ _ hj
  have hs : (sA r 130 c 0).2.2.1 130 c = 0 := sA_s _ _ _ _
  refine ⟨hS, ⟨i1, i2, i3, i4, i5, i6, i7, i8, fun j hj => ?_, i10⟩, m1, m2, m3, m4, m5⟩
  obtain ⟨u1, u2, u3, u4, u5, u6, u7, u8, u9, u10, u11, u12, u13, u14, u15, u16, u17, u18, u19, u20, u21, u22, u23, u24⟩ := i9 j hj
  refine ⟨u1, u2, u3, u4, u5, u6, u7, u8, u9, u10, u11, u12, u13, u14, ?_, u16, u17, u18, u19, u20, u21, u22, fun z => ?_, u24⟩
  · by_cases e : j = c
    · subst e
      rw [hs]
      exact Or.inl rfl
    · rw [hn j e]
      exact u15
  · by_cases e : j = c
    · rw [e, hs] at z
      exact absurd z (by decide)
    · rw [hn j e] at z
      exact u23 z
/-- what a carry brings -/
theorem deliver_ok (hw : World K tb g r x h) (htb : tb ≤ 1000000) (hc : c < (g.1 0 5)) (hob : (g.2.2.2.2.2 17) c = 0) (heq : EQ g r c) (hr : RD h b L F) (h5 : (h.2.2 b).2.2 5 = .int (nI 3)) (hL : L = 5) (hn1 : n ≤ 1000) (f3 : F 3 = nI (n / 256)) (f4 : F 4 = nI (n % 256)) (hcar : (r.2.2.1 129) c = nI n) (hwb : ∀ v, World K tb g r x (hset h b 5 (.int v))) : ∃ g' r' x' h', World K (tb + 1000) g' r' x' h' ∧ h'.1 ≤ h.1 + 3 ∧ h'.2.1 ≤ h.2.1 + 248 ∧ h.1 ≤ h'.1 ∧ (∀ d r0 Q, Go (d + 42) 141 0 [.ref 5, .ref ((g.1 6) c), .ref b, mk0] [] (putR r0 (putX x h)) Q = Q none (putR r0 (putX x' h'))) ∧ (∀ d (H : pheap) Q, 146 ≤ H.1 → Go (d + 8) 234 0 [.ref 73, .int (nI c), mk0, mk0, mk0, mk0] [] (putR r H) Q = Q none (putR r' H)) := by
  have hh := sim_146 hw.1
  obtain ⟨n1, n2, n3⟩ := w_nc hw
  obtain ⟨d1, d2, -⟩ := w_nd hw
  obtain ⟨a1, a2, ⟨t, q0, q1, q2, q3, q4, q5, q6, q7, q8, q9, q10, q11, q12, q13, q14, q15, q16⟩⟩ := s_cal hw.1 hc
  obtain ⟨u1, u2, u3, u4, u5, u6, u7, u8, -⟩ := w_cal hw c hc
  rw [if_pos hob] at u5
  obtain ⟨hk, hca⟩ := u8 hob
  obtain ⟨-, -, hst, -⟩ := w_dsk hw ((g.2.2.2.2.2 15) c) (by omega)
  obtain ⟨s, s1, s2⟩ := hst ((g.2.2.2.2.2 16) c) hk
  obtain ⟨k1, k2, kt, k3, k4, k5, k6, k7, k8, k9, k10⟩ := s_dsk hw.1 u4
  obtain ⟨p1, p2, p3, p4, p5⟩ := s_stk hw.1 u4
  have p6 : (h.2.2 ((g.1 4) ((g.2.2.2.2.2 15) c) + 3)).2.2 ((g.2.2.2.2.2 16) c) = .int (nI s) := by rw [p5 _ hk]; exact congrArg Value.int s2
  obtain ⟨r1, r2, r3, -⟩ := id hr
  have ne1 : (g.1 6) c ≠ b := fun z => by rw [z, r3] at t; exact absurd t (by decide)
  have ne2 : (g.1 4) ((g.2.2.2.2.2 15) c) ≠ b := fun z => by rw [z, r3] at kt; exact absurd kt (by decide)
  have ne3 : (g.1 4) ((g.2.2.2.2.2 15) c) + 3 ≠ b := fun z => by rw [z, r3] at p3; exact absurd p3 (by decide)
  have ne4 : (g.1 6) c ≠ (g.1 4) ((g.2.2.2.2.2 15) c) + 3 := fun z => by rw [z, p3] at t; exact absurd t (by decide)
  have ne5 : (g.1 4) ((g.2.2.2.2.2 15) c) ≠ (g.1 4) ((g.2.2.2.2.2 15) c) + 3 := by omega
  have ne6 : (g.1 4) ((g.2.2.2.2.2 15) c) ≠ (g.1 6) c := fun z => by rw [z, t] at kt; exact absurd kt (by decide)
  have hnb : nb F 2 3 0 = (nI n).toInt64 := by
    show ((((0 : Int64) <<< ((8 : Int32).toInt64 &&& 63)) ||| (F 3).toInt64) <<< ((8 : Int32).toInt64 &&& 63) ||| (F 4).toInt64) = _
    rw [f3, f4]
    exact nb_2 n (by omega)
  -- what has come
  have hw0 : World K tb g (sI r 78 0) x (hset h b 5 (.int (nI (3 + 2)))) := w_sc (hwb (nI (3 + 2))) (sc_fail 0)
  have hw1 := w_stock hw0 u4 hk (s := s + n) (by omega)
  have hw2 := w_cmv hw1 hc
  obtain ⟨y1, y2, y3⟩ := out_new (s := 0) (w := (nI (s + n)).toInt64) hw2 rfl (Or.inl ⟨0, by omega, rfl⟩) VV_i
  have hes : eSort (gW g (hset (hset (hset h b 5 (.int (nI (3 + 2)))) ((g.1 4) ((g.2.2.2.2.2 15) c) + 3) ((g.2.2.2.2.2 16) c) (.int (nI (s + n)))) ((g.1 6) c) 10 (.int 0)).1 0 (nI (s + n)).toInt64 0) (asR (sA (sA (sI r 78 0) 96 (4 * (g.2.2.2.2.2 15) c + (g.2.2.2.2.2 16) c) (nI (s + n))) 130 c 0) 0 (nI (s + n)).toInt64) c = 0 := by
    unfold eSort
    exact if_pos hob
  have hX1 : (hset (hset (hset h b 5 (.int (nI (3 + 2)))) ((g.1 4) ((g.2.2.2.2.2 15) c) + 3) ((g.2.2.2.2.2 16) c) (.int (nI (s + n)))) ((g.1 6) c) 10 (.int 0)).1 = h.1 := rfl
  have hX2 : (hset (hset (hset h b 5 (.int (nI (3 + 2)))) ((g.1 4) ((g.2.2.2.2.2 15) c) + 3) ((g.2.2.2.2.2 16) c) (.int (nI (s + n)))) ((g.1 6) c) 10 (.int 0)).2.1 = h.2.1 := rfl
  obtain ⟨g', r', x', h', z1, z2, z3, z6, z4, z5⟩ := endDeed_ok (c := c) (va := (hset (hset (hset h b 5 (.int (nI (3 + 2)))) ((g.1 4) ((g.2.2.2.2.2 15) c) + 3) ((g.2.2.2.2.2 16) c) (.int (nI (s + n)))) ((g.1 6) c) 10 (.int 0)).1) (ta := 0) y1 hc (eq_ep heq) (by rw [hes]; exact y3)
  have hb := eB_le (va := (hset (hset (hset h b 5 (.int (nI (3 + 2)))) ((g.1 4) ((g.2.2.2.2.2 15) c) + 3) ((g.2.2.2.2.2 16) c) (.int (nI (s + n)))) ((g.1 6) c) 10 (.int 0)).1)
  obtain ⟨t1, t2, t3, t4, t5, t6, t7⟩ := z2
  rw [mkV_1] at t4 t5
  rw [mkV_u] at t6
  refine ⟨g', r', x', h', z1, by omega, by omega, by omega, fun d r0 Q => ?_, fun d H Q hH => ?_⟩
  · have e1 := fun Q => x_readN (d := d + 40) (r0 := r0) (x := x) (n := 2) (Q := Q) hh hr h5 (by omega)
    rw [hnb] at e1
    have e1' : ∀ Q, Go (d + 40 + 1) 140 0 [.ref b, .int 2, mk0, mk0, mk0] [] (putR r0 (putX x h)) Q = Q (some (.long (nI n).toInt64)) (putR r0 (putX x (hset h b 5 (.int (nI (3 + 2)))))) := e1
    have e2 := fun v Q => x_newValue (d := d + 39) (Q := Q) (r0 := r0) (x := x) (h := hset (hset (hset h b 5 (.int (nI (3 + 2)))) ((g.1 4) ((g.2.2.2.2.2 15) c) + 3) ((g.2.2.2.2.2 16) c) (.int (nI (s + n)))) ((g.1 6) c) 10 (.int 0)) (s := 0) (v := v) (t := 0) hh
    simp only [pv_0] at e2
    have e3 := fun Q => z4 d r0 Q
    rw [pv_0, pv_n (by omega)] at e3
    have e3' : ∀ Q, Go (d + 41) 107 0 [.ref 5, .ref ((g.1 6) c), .ref h.1, .null, mk0, mk0] [] (putR r0 (putX x (mkV (hset (hset (hset h b 5 (.int (nI (3 + 2)))) ((g.1 4) ((g.2.2.2.2.2 15) c) + 3) ((g.2.2.2.2.2 16) c) (.int (nI (s + n)))) ((g.1 6) c) 10 (.int 0)) 0 (nI (s + n)).toInt64 0))) Q = Q none (putR r0 (putX x' h')) := e3
    -- as far as what has come
    have st1 : Go (d + 42) 141 0 [.ref 5, .ref ((g.1 6) c), .ref b, mk0] [] (putR r0 (putX x h)) Q = Go (d + 42) 141 38 [.ref 5, .ref ((g.1 6) c), .ref b, .int (nI ((g.2.2.2.2.2 16) c))] [] (putR r0 (putX x (hset (hset (hset h b 5 (.int (nI (3 + 2)))) ((g.1 4) ((g.2.2.2.2.2 15) c) + 3) ((g.2.2.2.2.2 16) c) (.int (nI (s + n)))) ((g.1 6) c) 10 (.int 0)))) Q := by
      simp (disch := first | exact c1_i _ | exact c1_r _ | exact c1_n | exact c1_m | omega | assumption | (apply ac_l; omega) | (apply ac_r; omega) | decide | exact Or.inl rfl) only [e_141_0, e_141_0n, e_141_1, e_141_4, e_141_5, e_141_6, e_141_9, e_141_10, e_141_11, e_141_14, e_141_15, e_141_15n, e_141_16, e_141_19, e_141_22, e_141_23, e_141_24, e_141_25, e_141_25n, e_141_26, e_141_27, e_141_30, e_141_31, e_141_32, e_141_33, e_141_33n, e_141_34, e_141_35, Option.toList_some, Option.toList_none, List.cons_append, List.nil_append, catS_cons, catS_nil, cat_int, cat_long, cat_ref, cat_null, c1_i, c1_r, c1_n, c1_m, true_and, and_true, and_self, putR_1, putR_u, eq_self, Nat.reduceLT, Nat.reduceLeDiff, Nat.reduceAdd, Nat.reduceEqDiff, vk_i, vk_l, vk_r, vk_n, vk_0, vk_1, if_true, if_false, not_true_eq_false, not_false_eq_true, false_and, and_false, ne_eq, true_or, or_true, ite_not, reduceCtorEq, putX_1, putX_u, putX_hi, hset_Xhi, px_5, xf_5_0, xf_5_1, xI_5_1, xf_5_2, xR_0, xf_5_3, xI_5_3, xf_5_4, xI_5_4, xf_5_5, xf_5_6, xI_5_6, xf_5_7, xf_5_8, xf_5_9, xf_5_10, xf_5_11, xf_5_12, xf_5_13, xf_5_14, xf_5_15, xI_5_15, px_6, xA_6, px_18, xA_18, px_19, xf_19_0, xI_19_0, xf_19_1, xR_1, xf_19_2, xI_19_2, px_20, xf_20_0, xI_20_0, xf_20_1, xR_2, xf_20_2, xI_20_2, px_21, xf_21_0, xI_21_0, xf_21_1, xR_3, xf_21_2, xI_21_2, px_22, xf_22_0, xI_22_0, xf_22_1, xR_4, xf_22_2, xI_22_2, px_23, xf_23_0, xI_23_0, xf_23_1, xR_5, xf_23_2, xI_23_2, px_24, xf_24_0, xI_24_0, xf_24_1, xR_6, xf_24_2, xI_24_2, px_25, xf_25_0, xI_25_0, xf_25_1, xI_25_1, xf_25_2, xf_25_3, xI_25_3, xf_25_4, xf_25_5, xf_25_6, px_26, xA_26, px_27, px_28, xA_28, px_29, xA_29, px_30, xA_30, px_31, xA_31, px_32, xA_32, px_33, xA_33, px_34, xA_34, px_35, xA_35, px_36, xA_36, px_37, xA_37, px_38, xA_38, px_39, xA_39, px_40, xA_40, px_41, xA_41, px_42, xA_42, px_43, xA_43, px_44, xA_44, px_45, xA_45, px_46, xA_46, px_47, xA_47, px_48, xA_48, px_49, xA_49, px_50, xA_50, px_51, xA_51, px_52, xA_52, px_53, xA_53, px_54, xA_54, px_55, xA_55, px_56, xA_56, px_57, xA_57, px_58, xA_58, px_59, xA_59, px_60, xA_60, px_61, xA_61, px_62, xA_62, px_63, xA_63, px_64, xA_64, px_65, xA_65, px_66, xA_66, px_67, xA_67, px_68, xA_68, px_69, xA_69, px_70, xf_70_0, xI_70_0, xf_70_1, xI_70_1, xf_70_2, xI_70_2, xf_70_3, xf_70_4, px_71, xA_71, px_72, xA_72, ni_ixL, ni_clL, ni_add, ni_mul, ni_lt, ni_le, ni_eq, ni_clamp, ni_ix, ni_lt0, ni_0le, ni_ltL, ni_Llt, ni_leL, ni_Lle, ni_eqL, ni_addL, ni_Ladd, ni_mulL, ni_Lmul, ni_subL, ni_sub, ni_Lsub, le_t, le_f, lt_t, lt_f, eq_f, il_lt, il_l0, il_g0, il_l1, il_g1, il_l2, il_g2, il_l3, il_g3, il_l4, il_g4, il_l5, il_g5, il_l7, il_g7, il_l8, il_g8, il_l9, il_g9, il_l10, il_g10, il_l15, il_g15, il_l20, il_g20, il_l23, il_g23, il_l24, il_g24, il_l60, il_g60, il_l100, il_g100, il_l999, il_g999, il_l1000, il_g1000, putR_lo, hset_lo, putR_lt hh, rd_hi, wr_hi, hs_1, hs_s, hs_o, uv_s, uv_o, pv_0, pv_n, i1_0, bs_0, bs_1, im_lt, im_ge, im_eq, ni_em, t, q4, q2, kt, k10, p3, p4, p6, r3, e1', il_32]
    rw [st1]
    have v1 : ((hset (hset (hset h b 5 (.int (nI (3 + 2)))) ((g.1 4) ((g.2.2.2.2.2 15) c) + 3) ((g.2.2.2.2.2 16) c) (.int (nI (s + n)))) ((g.1 6) c) 10 (.int 0)).2.2 ((g.1 6) c)).1 = 3 := by
      rw [hs_s, hs_o _ _ ne4, hs_o _ _ ne1]
      exact t
    have v2 : ((hset (hset (hset h b 5 (.int (nI (3 + 2)))) ((g.1 4) ((g.2.2.2.2.2 15) c) + 3) ((g.2.2.2.2.2 16) c) (.int (nI (s + n)))) ((g.1 6) c) 10 (.int 0)).2.2 ((g.1 6) c)).2.2 2 = .ref ((g.1 4) ((g.2.2.2.2.2 15) c)) := by
      rw [hs_s, hs_o _ _ ne4, hs_o _ _ ne1]
      exact q2
    have v3 : (hset (hset (hset h b 5 (.int (nI (3 + 2)))) ((g.1 4) ((g.2.2.2.2.2 15) c) + 3) ((g.2.2.2.2.2 16) c) (.int (nI (s + n)))) ((g.1 6) c) 10 (.int 0)).2.2 ((g.1 4) ((g.2.2.2.2.2 15) c)) = h.2.2 ((g.1 4) ((g.2.2.2.2.2 15) c)) := by
      rw [hs_o _ _ ne6, hs_o _ _ ne5, hs_o _ _ ne2]
    have v4 : (hset (hset (hset h b 5 (.int (nI (3 + 2)))) ((g.1 4) ((g.2.2.2.2.2 15) c) + 3) ((g.2.2.2.2.2 16) c) (.int (nI (s + n)))) ((g.1 6) c) 10 (.int 0)).2.2 ((g.1 4) ((g.2.2.2.2.2 15) c) + 3) = ((h.2.2 ((g.1 4) ((g.2.2.2.2.2 15) c) + 3)).1, (h.2.2 ((g.1 4) ((g.2.2.2.2.2 15) c) + 3)).2.1, updV (h.2.2 ((g.1 4) ((g.2.2.2.2.2 15) c) + 3)).2.2 ((g.2.2.2.2.2 16) c) (.int (nI (s + n)))) := by
      rw [hs_o _ _ (Ne.symm ne4), hs_s, hs_o _ _ ne3]
    generalize hset (hset (hset h b 5 (.int (nI (3 + 2)))) ((g.1 4) ((g.2.2.2.2.2 15) c) + 3) ((g.2.2.2.2.2 16) c) (.int (nI (s + n)))) ((g.1 6) c) 10 (.int 0) = hX at *
    have hh : 146 ≤ hX.1 := by omega
    rw [hX1] at e2
    have w1 : (g.1 6) c ≠ hX.1 := by omega
    have w2 : (g.1 4) ((g.2.2.2.2.2 15) c) ≠ hX.1 := by omega
    have w3 : (g.1 4) ((g.2.2.2.2.2 15) c) + 3 ≠ hX.1 := by omega
    have h5' : ∀ v, 5 < (mkV hX 0 v 0).1 := fun v => by rw [mkV_1]; omega
    simp (disch := first | exact c1_i _ | exact c1_r _ | exact c1_n | exact c1_m | omega | assumption | (simp only [hn_1, hs_1, hC_1]; omega) | (apply ac_l; omega) | (apply ac_r; omega) | decide | exact Or.inl rfl) only [e_141_38, e_141_38n, e_141_39, e_141_39n, e_141_40, e_141_43, e_141_44, e_141_45, e_141_45n, e_141_46, e_141_49, e_141_52, e_141_53, e_141_54, e_141_55, e_141_56, e_141_59, e_141_60, e_141_63, Option.toList_some, Option.toList_none, List.cons_append, List.nil_append, catS_cons, catS_nil, cat_int, cat_long, cat_ref, cat_null, c1_i, c1_r, c1_n, c1_m, true_and, and_true, and_self, putR_1, putR_u, eq_self, Nat.reduceLT, Nat.reduceLeDiff, Nat.reduceAdd, Nat.reduceEqDiff, vk_i, vk_l, vk_r, vk_n, vk_0, vk_1, if_true, if_false, not_true_eq_false, not_false_eq_true, false_and, and_false, ne_eq, true_or, or_true, ite_not, reduceCtorEq, putX_1, putX_u, putX_hi, hset_Xhi, px_5, xf_5_0, xf_5_1, xI_5_1, xf_5_2, xR_0, xf_5_3, xI_5_3, xf_5_4, xI_5_4, xf_5_5, xf_5_6, xI_5_6, xf_5_7, xf_5_8, xf_5_9, xf_5_10, xf_5_11, xf_5_12, xf_5_13, xf_5_14, xf_5_15, xI_5_15, px_6, xA_6, px_18, xA_18, px_19, xf_19_0, xI_19_0, xf_19_1, xR_1, xf_19_2, xI_19_2, px_20, xf_20_0, xI_20_0, xf_20_1, xR_2, xf_20_2, xI_20_2, px_21, xf_21_0, xI_21_0, xf_21_1, xR_3, xf_21_2, xI_21_2, px_22, xf_22_0, xI_22_0, xf_22_1, xR_4, xf_22_2, xI_22_2, px_23, xf_23_0, xI_23_0, xf_23_1, xR_5, xf_23_2, xI_23_2, px_24, xf_24_0, xI_24_0, xf_24_1, xR_6, xf_24_2, xI_24_2, px_25, xf_25_0, xI_25_0, xf_25_1, xI_25_1, xf_25_2, xf_25_3, xI_25_3, xf_25_4, xf_25_5, xf_25_6, px_26, xA_26, px_27, px_28, xA_28, px_29, xA_29, px_30, xA_30, px_31, xA_31, px_32, xA_32, px_33, xA_33, px_34, xA_34, px_35, xA_35, px_36, xA_36, px_37, xA_37, px_38, xA_38, px_39, xA_39, px_40, xA_40, px_41, xA_41, px_42, xA_42, px_43, xA_43, px_44, xA_44, px_45, xA_45, px_46, xA_46, px_47, xA_47, px_48, xA_48, px_49, xA_49, px_50, xA_50, px_51, xA_51, px_52, xA_52, px_53, xA_53, px_54, xA_54, px_55, xA_55, px_56, xA_56, px_57, xA_57, px_58, xA_58, px_59, xA_59, px_60, xA_60, px_61, xA_61, px_62, xA_62, px_63, xA_63, px_64, xA_64, px_65, xA_65, px_66, xA_66, px_67, xA_67, px_68, xA_68, px_69, xA_69, px_70, xf_70_0, xI_70_0, xf_70_1, xI_70_1, xf_70_2, xI_70_2, xf_70_3, xf_70_4, px_71, xA_71, px_72, xA_72, ni_ixL, ni_clL, ni_add, ni_mul, ni_lt, ni_le, ni_eq, ni_clamp, ni_ix, ni_lt0, ni_0le, ni_ltL, ni_Llt, ni_leL, ni_Lle, ni_eqL, ni_addL, ni_Ladd, ni_mulL, ni_Lmul, ni_subL, ni_sub, ni_Lsub, le_t, le_f, lt_t, lt_f, eq_f, il_lt, il_l0, il_g0, il_l1, il_g1, il_l2, il_g2, il_l3, il_g3, il_l4, il_g4, il_l5, il_g5, il_l7, il_g7, il_l8, il_g8, il_l9, il_g9, il_l10, il_g10, il_l15, il_g15, il_l20, il_g20, il_l23, il_g23, il_l24, il_g24, il_l60, il_g60, il_l100, il_g100, il_l999, il_g999, il_l1000, il_g1000, putR_lo, hset_lo, putR_lt hh, rd_hi, wr_hi, hs_1, hs_s, hs_o, uv_s, uv_o, pv_0, pv_n, i1_0, bs_0, bs_1, im_lt, im_ge, im_eq, ni_em, nw_hi, hn_1, hn_s, hn_o, ni_Ll0, hX1, v1, v2, v3, v4, kt, k10, p3, p4, e2, e3', h5']
  · have hh := hH
    have e1 : (sI r 78 0).2.2.1 115 c = -1 := u5
    have e2 : (sI r 78 0).2.2.1 117 c = nI ((g.2.2.2.2.2 15) c) := u3
    have e3 : (sI r 78 0).2.2.1 116 c = nI ((g.2.2.2.2.2 16) c) := u7
    have e4 : (sI r 78 0).2.2.1 96 (4 * (g.2.2.2.2.2 15) c + (g.2.2.2.2.2 16) c) = nI s := s2
    have e5 : (sI r 78 0).2.2.1 129 c = nI n := hcar
    have e6 := fun Q => r_zero (d := d + 6) (r := sA (sA (sI r 78 0) 96 (4 * (g.2.2.2.2.2 15) c + (g.2.2.2.2.2 16) c) (nI (s + n))) 130 c 0) (h := H) (c := 783) (s := 0) (Q := Q) hH (by omega)
    have e6' : ∀ Q, Go (d + 6 + 1) 194 0 [.ref 73, .int 783, .int 0] [] (putR (sA (sA (sI r 78 0) 96 (4 * (g.2.2.2.2.2 15) c + (g.2.2.2.2.2 16) c) (nI (s + n))) 130 c 0) H) Q = Q none (putR (asR (sA (sA (sI r 78 0) 96 (4 * (g.2.2.2.2.2 15) c + (g.2.2.2.2.2 16) c) (nI (s + n))) 130 c 0) 0 (zv 0)) H) := e6
    have e7 : (asR (sA (sA (sI r 78 0) 96 (4 * (g.2.2.2.2.2 15) c + (g.2.2.2.2.2 16) c) (nI (s + n))) 130 c 0) 0 (zv 0)).2.2.1 96 (4 * (g.2.2.2.2.2 15) c + (g.2.2.2.2.2 16) c) = nI (s + n) := upN_s ((r.2.2.1 96)) _ _
    have e8 : sL (asR (sA (sA (sI r 78 0) 96 (4 * (g.2.2.2.2.2 15) c + (g.2.2.2.2.2 16) c) (nI (s + n))) 130 c 0) 0 (zv 0)) 87 783 (nI (s + n)).toInt64 = asR (sA (sA (sI r 78 0) 96 (4 * (g.2.2.2.2.2 15) c + (g.2.2.2.2.2 16) c) (nI (s + n))) 130 c 0) 0 (nI (s + n)).toInt64 := by
      unfold asR
      show sA (sL (sL (sA (sA (sI r 78 0) 96 (4 * (g.2.2.2.2.2 15) c + (g.2.2.2.2.2 16) c) (nI (s + n))) 130 c 0) 87 783 _) 87 783 _) 88 783 (-1) = _
      rw [sL_L]
    have e9 := fun Q => z5 d H Q hH
    have st : Go (d + 8) 234 0 [.ref 73, .int (nI c), mk0, mk0, mk0, mk0] [] (putR r H) Q = Go (d + 8) 234 4 [.ref 73, .int (nI c), .int (nI c), .int 1, mk0, mk0] [] (putR r H) Q := by
      simp (disch := first | exact c1_i _ | exact c1_r _ | exact c1_n | exact c1_m | omega | assumption | (apply ac_l; omega) | (apply ac_r; omega) | decide | exact Or.inl rfl) only [e_234_0, e_234_1, e_234_2, e_234_3, Option.toList_some, Option.toList_none, List.cons_append, List.nil_append, catS_cons, catS_nil, cat_int, cat_long, cat_ref, cat_null, c1_i, c1_r, c1_n, c1_m, true_and, and_true, and_self, putR_1, putR_u, eq_self, Nat.reduceLT, Nat.reduceLeDiff, Nat.reduceAdd, Nat.reduceEqDiff, vk_i, vk_l, vk_r, vk_n, vk_0, vk_1, if_true, if_false, not_true_eq_false, not_false_eq_true, false_and, and_false, ne_eq, true_or, or_true, ite_not, reduceCtorEq, pr_73, pr_74, pr_75, pr_76, pr_77, pr_78, pr_79, pr_80, pr_81, pr_82, pr_83, pr_84, pr_85, pr_86, pr_87, pr_88, pr_89, pr_90, pr_91, pr_92, pr_93, pr_94, pr_95, pr_96, pr_97, pr_98, pr_99, pr_100, pr_101, pr_102, pr_103, pr_104, pr_105, pr_106, pr_107, pr_108, pr_109, pr_110, pr_111, pr_112, pr_113, pr_114, pr_115, pr_116, pr_117, pr_118, pr_119, pr_120, pr_121, pr_122, pr_123, pr_124, pr_125, pr_126, pr_127, pr_128, pr_129, pr_130, pr_131, pr_132, pr_133, pr_134, pr_135, pr_136, pr_137, pr_138, pr_139, pr_140, pr_141, pr_142, pr_143, pr_144, pr_145, rf_0, rf_1, hI_1, rf_2, hI_2, rf_3, hI_3, rf_4, hI_4, rf_5, hI_5, rf_6, hI_6, rf_7, hI_7, rf_8, rf_9, rf_10, rf_11, hI_11, rf_12, rf_13, rf_14, rf_15, rf_16, hI_16, rf_17, rf_18, rf_19, rf_20, rf_21, rf_22, rf_23, hI_23, rf_24, rf_25, rf_26, rf_27, rf_28, hI_28, rf_29, rf_30, hI_30, rf_31, rf_32, hI_32, rf_33, hI_33, rf_34, rf_35, rf_36, rf_37, rf_38, rf_39, rf_40, rf_41, hI_41, rf_42, rf_43, rf_44, rf_45, rf_46, rf_47, rf_48, rf_49, rf_50, hI_50, rf_51, rf_52, rf_53, rf_54, rf_55, rf_56, rf_57, hI_57, rf_58, rf_59, rf_60, rf_61, rf_62, rf_63, rf_64, rf_65, rf_66, rf_67, rf_68, rf_69, rf_70, rf_71, rf_72, rf_73, rf_74, rf_75, hI_75, rf_76, rf_77, rf_78, hI_78, rf_79, rf_80, rf_81, hI_81, rf_82, hI_82, rf_83, rf_84, hI_84, rf_85, rf_86, rf_87, hI_87, rf_88, hI_88, rf_89, hI_89, rf_90, hI_90, rf_91, rf_92, rf_93, rf_94, hI_94, rf_95, hI_95, rf_96, rf_97, rf_98, rf_99, rf_100, hset_W, hA_74, hL_75, hA_76, hL_77, hA_78, hL_79, hA_80, hL_81, hA_82, hL_83, hA_84, hA_85, hA_86, hL_87, hA_88, hA_89, hA_90, hA_91, hA_92, hA_93, hA_94, hA_95, hA_96, hA_97, hA_98, hA_99, hA_100, hA_101, hA_102, hA_103, hA_104, hA_105, hL_106, hA_107, hA_108, hA_109, hA_110, hA_111, hA_112, hA_113, hA_114, hA_115, hA_116, hA_117, hA_118, hA_119, hA_120, hA_121, hA_122, hA_123, hA_124, hA_125, hA_126, hA_127, hA_128, hA_129, hA_130, hA_131, hA_132, hA_133, hA_134, hA_135, hA_136, hA_137, hA_138, hA_139, hA_140, hA_141, hA_142, hA_143, hA_144, hA_145, ni_ixL, ni_clL, ni_add, ni_mul, ni_lt, ni_le, ni_eq, ni_clamp, ni_ix, ni_lt0, ni_0le, ni_ltL, ni_Llt, ni_leL, ni_Lle, ni_eqL, ni_addL, ni_Ladd, ni_mulL, ni_Lmul, ni_subL, ni_sub, ni_Lsub, le_t, le_f, lt_t, lt_f, eq_f, il_lt, il_l0, il_g0, il_l1, il_g1, il_l2, il_g2, il_l3, il_g3, il_l4, il_g4, il_l5, il_g5, il_l7, il_g7, il_l8, il_g8, il_l9, il_g9, il_l10, il_g10, il_l15, il_g15, il_l20, il_g20, il_l23, il_g23, il_l24, il_g24, il_l60, il_g60, il_l100, il_g100, il_l999, il_g999, il_l1000, il_g1000, r_in, putR_lt hh, sA_1, sA_s, i1_0, bs_0, bs_1, im_lt, im_ge, im_eq, ni_em]
    have hu : (sA (sA (sI r 78 0) 96 (4 * (g.2.2.2.2.2 15) c + (g.2.2.2.2.2 16) c) (nI (s + n))) 130 c 0) = (sA (sA (sI r 78 0) 96 (4 * (g.2.2.2.2.2 15) c + (g.2.2.2.2.2 16) c) (nI (s + n))) 130 c 0) := rfl
    rw [st, e_234_4]
    simp (disch := first | exact c1_i _ | exact c1_r _ | exact c1_n | exact c1_m | omega | assumption | (apply ac_l; omega) | (apply ac_r; omega) | decide | exact Or.inl rfl) only [e_234_5, e_234_8, e_234_9, e_234_10, e_234_10n, e_234_11, e_234_12, e_234_15, e_234_15n, e_234_16, e_234_19, e_234_20, e_234_21, e_234_23, e_234_25, e_234_26, e_234_29, e_234_30, e_234_30n, e_234_31, e_234_34, e_234_35, e_234_36, e_234_37, e_234_37n, e_234_38, e_234_41, e_234_42, e_234_43, e_234_44, e_234_46, e_234_46n, e_234_47, e_234_50, e_234_52, e_234_53, e_234_54, e_234_54n, e_234_55, e_234_58, e_234_59, e_234_60, e_234_61, e_234_62, e_234_62n, e_234_63, e_234_66, e_234_67, e_234_68, e_234_69, e_234_69n, e_234_70, e_234_73, e_234_74, e_234_77, e_234_77n, e_234_78, e_234_81, e_234_84, e_234_84n, e_234_85, e_234_88, e_234_90, e_234_91, e_234_92, e_234_93, e_234_93n, e_234_94, e_234_95, e_234_98, Option.toList_some, Option.toList_none, List.cons_append, List.nil_append, catS_cons, catS_nil, cat_int, cat_long, cat_ref, cat_null, c1_i, c1_r, c1_n, c1_m, true_and, and_true, and_self, putR_1, putR_u, eq_self, Nat.reduceLT, Nat.reduceLeDiff, Nat.reduceAdd, Nat.reduceEqDiff, vk_i, vk_l, vk_r, vk_n, vk_0, vk_1, if_true, if_false, not_true_eq_false, not_false_eq_true, false_and, and_false, ne_eq, true_or, or_true, ite_not, reduceCtorEq, pr_73, pr_74, pr_75, pr_76, pr_77, pr_78, pr_79, pr_80, pr_81, pr_82, pr_83, pr_84, pr_85, pr_86, pr_87, pr_88, pr_89, pr_90, pr_91, pr_92, pr_93, pr_94, pr_95, pr_96, pr_97, pr_98, pr_99, pr_100, pr_101, pr_102, pr_103, pr_104, pr_105, pr_106, pr_107, pr_108, pr_109, pr_110, pr_111, pr_112, pr_113, pr_114, pr_115, pr_116, pr_117, pr_118, pr_119, pr_120, pr_121, pr_122, pr_123, pr_124, pr_125, pr_126, pr_127, pr_128, pr_129, pr_130, pr_131, pr_132, pr_133, pr_134, pr_135, pr_136, pr_137, pr_138, pr_139, pr_140, pr_141, pr_142, pr_143, pr_144, pr_145, rf_0, rf_1, hI_1, rf_2, hI_2, rf_3, hI_3, rf_4, hI_4, rf_5, hI_5, rf_6, hI_6, rf_7, hI_7, rf_8, rf_9, rf_10, rf_11, hI_11, rf_12, rf_13, rf_14, rf_15, rf_16, hI_16, rf_17, rf_18, rf_19, rf_20, rf_21, rf_22, rf_23, hI_23, rf_24, rf_25, rf_26, rf_27, rf_28, hI_28, rf_29, rf_30, hI_30, rf_31, rf_32, hI_32, rf_33, hI_33, rf_34, rf_35, rf_36, rf_37, rf_38, rf_39, rf_40, rf_41, hI_41, rf_42, rf_43, rf_44, rf_45, rf_46, rf_47, rf_48, rf_49, rf_50, hI_50, rf_51, rf_52, rf_53, rf_54, rf_55, rf_56, rf_57, hI_57, rf_58, rf_59, rf_60, rf_61, rf_62, rf_63, rf_64, rf_65, rf_66, rf_67, rf_68, rf_69, rf_70, rf_71, rf_72, rf_73, rf_74, rf_75, hI_75, rf_76, rf_77, rf_78, hI_78, rf_79, rf_80, rf_81, hI_81, rf_82, hI_82, rf_83, rf_84, hI_84, rf_85, rf_86, rf_87, hI_87, rf_88, hI_88, rf_89, hI_89, rf_90, hI_90, rf_91, rf_92, rf_93, rf_94, hI_94, rf_95, hI_95, rf_96, rf_97, rf_98, rf_99, rf_100, hset_W, hA_74, hL_75, hA_76, hL_77, hA_78, hL_79, hA_80, hL_81, hA_82, hL_83, hA_84, hA_85, hA_86, hL_87, hA_88, hA_89, hA_90, hA_91, hA_92, hA_93, hA_94, hA_95, hA_96, hA_97, hA_98, hA_99, hA_100, hA_101, hA_102, hA_103, hA_104, hA_105, hL_106, hA_107, hA_108, hA_109, hA_110, hA_111, hA_112, hA_113, hA_114, hA_115, hA_116, hA_117, hA_118, hA_119, hA_120, hA_121, hA_122, hA_123, hA_124, hA_125, hA_126, hA_127, hA_128, hA_129, hA_130, hA_131, hA_132, hA_133, hA_134, hA_135, hA_136, hA_137, hA_138, hA_139, hA_140, hA_141, hA_142, hA_143, hA_144, hA_145, ni_ixL, ni_clL, ni_add, ni_mul, ni_lt, ni_le, ni_eq, ni_clamp, ni_ix, ni_lt0, ni_0le, ni_ltL, ni_Llt, ni_leL, ni_Lle, ni_eqL, ni_addL, ni_Ladd, ni_mulL, ni_Lmul, ni_subL, ni_sub, ni_Lsub, le_t, le_f, lt_t, lt_f, eq_f, il_lt, il_l0, il_g0, il_l1, il_g1, il_l2, il_g2, il_l3, il_g3, il_l4, il_g4, il_l5, il_g5, il_l7, il_g7, il_l8, il_g8, il_l9, il_g9, il_l10, il_g10, il_l15, il_g15, il_l20, il_g20, il_l23, il_g23, il_l24, il_g24, il_l60, il_g60, il_l100, il_g100, il_l999, il_g999, il_l1000, il_g1000, r_in, putR_lt hh, sA_1, sA_s, i1_0, bs_0, bs_1, im_lt, im_ge, im_eq, ni_em, e1, e2, e3, e4, e5, e6', e7, e8, e9]
end
