/-! the parts that are kept -/
section
variable {K : Nat → pcell} {tb : Nat} {g g' g0 g1 : gS} {r r' r0 : rS} {x x' x1 : xS} {h h' h1 : pheap} {d : Nat} {Q : Option Value → pheap → Prop} {a n k m i j : Nat} {B O S : Nat → Nat} {G : Nat → Int32}
def icG (g : gS) (B O S : Nat → Nat) : gS := gF (gF (gF g 31 B) 30 O) 29 S
theorem op_inc (hs : Sim K g r x h) (hj : j < 120 ∧ (g.2.2.2.2.2 23) j ≠ 0) (hof : ∀ i, i < 120 → (g.2.2.2.2.2 23) i ≠ 0 → (g.2.2.2.2.2 30) i ≤ 10) (hsz : ∀ i p, i < 120 → p < 10 → (g.2.2.2.2.2 29) (10 * i + p) ≤ 24)
    (hB : ∀ i, i ≠ j → B i = (g.2.2.2.2.2 31) i) (hO : ∀ i, i ≠ j → O i = (g.2.2.2.2.2 30) i) (hS : ∀ i p, i ≠ j → p < 10 → S (10 * i + p) = (g.2.2.2.2.2 29) (10 * i + p)) (hG : ∀ i k, i ≠ j → k < 240 → G (240 * i + k) = (r.2.2.1 141) (240 * i + k))
    (h1 : h'.1 = h.1) (h2 : ∀ b, b ≠ (g.2.2.2.2.2 23) j → b ≠ (g.2.2.2.2.2 23) j + 1 → b ≠ (g.2.2.2.2.2 23) j + 2 → h'.2.2 b = h.2.2 b)
    (c15 : cInc ((g.2.2.2.2.2 23) j) (O j) (B j) (fun p => S (10 * j + p)) (h'.2.2 ((g.2.2.2.2.2 23) j))) (c16 : cInts 23 10 (fun p => if bt (B j) p = true then 1 else 0) (h'.2.2 ((g.2.2.2.2.2 23) j + 1))) (c17 : cIby (B j) (fun p => S (10 * j + p)) (fun k => G (240 * j + k)) (h'.2.2 ((g.2.2.2.2.2 23) j + 2))) : Sim K (icG g B O S) (sR r 141 G) x h' := by
  obtain ⟨a1, a2, a3, -⟩ := sim_cell hs (ref_inc hj)
  obtain ⟨b1, b2, b3, -⟩ := sim_cell hs (ref_ihe hj)
  obtain ⟨d1, d2, d3, -⟩ := sim_cell hs (ref_iby hj)
  obtain ⟨⟨s1, s2, s3, s4⟩, pf, hC, bk, vr, kp, ft, flx, fw, fx⟩ := hs
  refine ⟨⟨by omega, s2, fun b hb => by rw [h2 b (by omega) (by omega) (by omega)]; exact s3 b hb, fun b hb => s4 b (by omega)⟩, ⟨fun p c hp => ?_, fun b y1 y2 => ?_, pf.2.2⟩, fun b y1 y2 => ?_, ?_, vr, kp, ft, flx, fw, fx⟩
  · rw [h1]
    exact pf.1 p c hp
  · rw [h1]
    exact pf.2.1 b y1 y2
  · by_cases e0 : b = (g.2.2.2.2.2 23) j
    · subst e0
      refine cell_15 (by rw [show (icG g B O S).2.2.2.1 = g.2.2.2.1 from rfl, a3]) ?_
      rw [show (icG g B O S).2.2.2.1 = g.2.2.2.1 from rfl, a3]
      exact c15
    · by_cases e1 : b = (g.2.2.2.2.2 23) j + 1
      · subst e1
        refine cell_16 (by rw [show (icG g B O S).2.2.2.1 = g.2.2.2.1 from rfl, b3]) ?_
        rw [show (icG g B O S).2.2.2.1 = g.2.2.2.1 from rfl, b3]
        exact c16
      · by_cases e2 : b = (g.2.2.2.2.2 23) j + 2
        · subst e2
          refine cell_17 (by rw [show (icG g B O S).2.2.2.1 = g.2.2.2.1 from rfl, d3]) ?_
          rw [show (icG g B O S).2.2.2.1 = g.2.2.2.1 from rfl, d3]
          exact c17
        · rw [h2 b e0 e1 e2]
          obtain ⟨c1, c2, c3, c4, c5, c6, c7, c8, c9, c10, c11, c12, c13, c14, c15', c16', c17', c18⟩ := hC b y1 (by omega)
          refine ⟨c1, c2, c3, c4, c5, c6, c7, c8, c9, c10, c11, c12, c13, c14, fun z => ?_, fun z => ?_, fun z => ?_, c18⟩
          · have z' : (g.2.2.2.1 b).1 = 15 := z
            have hne : (g.2.2.2.1 b).2 ≠ j := fun q => e0 (uniq pf a3 (Prod.ext z' q) (Nat.le_of_ble_eq_true rfl))
            have hlt := (ref_lt (pf.2.2 b (by omega))).2.2.2.2.2 (by omega) (by omega)
            have ho := hof _ hlt.1 hlt.2
            have c := c15' z
            show cInc b (O (g.2.2.2.1 b).2) (B (g.2.2.2.1 b).2) (fun p => S (10 * (g.2.2.2.1 b).2 + p)) _
            rw [hO _ hne, hB _ hne]
            obtain ⟨q0, q1, q2, q3, ⟨u, q4, q5⟩, ⟨u', q6, q7⟩, q8⟩ := c
            refine ⟨q0, q1, q2, q3, ⟨u, q4, q5⟩, ⟨u', q6, fun y => ?_⟩, q8⟩
            rw [q7 y]
            show nI (_ + (g.2.2.2.2.2 29) (10 * (g.2.2.2.1 b).2 + _)) = nI (_ + S (10 * (g.2.2.2.1 b).2 + _))
            rw [hS _ _ hne (by omega)]
          · have z' : (g.2.2.2.1 b).1 = 16 := z
            have hne : (g.2.2.2.1 b).2 ≠ j := fun q => e1 (uniq pf b3 (Prod.ext z' q) (Nat.le_of_ble_eq_true rfl))
            show cInts 23 10 (fun p => if bt (B (g.2.2.2.1 b).2) p = true then 1 else 0) _
            rw [hB _ hne]
            exact c16' z
          · have z' : (g.2.2.2.1 b).1 = 17 := z
            have hne : (g.2.2.2.1 b).2 ≠ j := fun q => e2 (uniq pf d3 (Prod.ext z' q) (Nat.le_of_ble_eq_true rfl))
            have hlt := (ref_lt (pf.2.2 b (by omega))).2.2.2.2.2 (by omega) (by omega)
            show cIby (B (g.2.2.2.1 b).2) (fun p => S (10 * (g.2.2.2.1 b).2 + p)) (fun k => G (240 * (g.2.2.2.1 b).2 + k)) _
            rw [hB _ hne]
            obtain ⟨q0, q1, q2, q3⟩ := c17' z
            refine ⟨q0, q1, q2, fun p hp hb k hk => ?_⟩
            have hk' : k < S (10 * (g.2.2.2.1 b).2 + p) := hk
            rw [hS _ p hne hp] at hk'
            have h24 := hsz _ p hlt.1 hp
            rw [q3 p hp hb k hk']
            show Value.int (sb ((r.2.2.1 141) (240 * (g.2.2.2.1 b).2 + (24 * p + k)))) = Value.int (sb (G (240 * (g.2.2.2.1 b).2 + (24 * p + k))))
            rw [hG _ _ hne (by omega)]
  · rcases bk with ⟨k1, k2⟩ | k1
    · refine Or.inl ⟨k1, fun y hy => ?_⟩
      rw [h2 _ (by omega) (by omega) (by omega)]
      exact k2 y hy
    · exact Or.inr k1
theorem op_inc0 (hs : Sim K g r x h) (hB : ∀ i, (g.2.2.2.2.2 23) i ≠ 0 → B i = (g.2.2.2.2.2 31) i ∧ O i = (g.2.2.2.2.2 30) i) : Sim K (icG g B O ((g.2.2.2.2.2 29))) r x h := by
  obtain ⟨s0, pf, hC, bk, vr, kp, ft, flx, fw, fx⟩ := hs
  refine ⟨s0, pf, fun b y1 y2 => ?_, bk, vr, kp, ft, flx, fw, fx⟩
  obtain ⟨c1, c2, c3, c4, c5, c6, c7, c8, c9, c10, c11, c12, c13, c14, c15', c16', c17', c18⟩ := hC b y1 y2
  refine ⟨c1, c2, c3, c4, c5, c6, c7, c8, c9, c10, c11, c12, c13, c14, fun z => ?_, fun z => ?_, fun z => ?_, c18⟩
  · have z' : (g.2.2.2.1 b).1 = 15 := z
    obtain ⟨l1, l2⟩ := (ref_lt (pf.2.2 b (by omega))).2.2.2.2.2 (by omega) (by omega)
    show cInc b (O (g.2.2.2.1 b).2) (B (g.2.2.2.1 b).2) (fun p => (g.2.2.2.2.2 29) (10 * (g.2.2.2.1 b).2 + p)) _
    rw [(hB _ l2).1, (hB _ l2).2]
    exact c15' z
  · have z' : (g.2.2.2.1 b).1 = 16 := z
    obtain ⟨l1, l2⟩ := (ref_lt (pf.2.2 b (by omega))).2.2.2.2.2 (by omega) (by omega)
    show cInts 23 10 (fun p => if bt (B (g.2.2.2.1 b).2) p = true then 1 else 0) _
    rw [(hB _ l2).1]
    exact c16' z
  · have z' : (g.2.2.2.1 b).1 = 17 := z
    obtain ⟨l1, l2⟩ := (ref_lt (pf.2.2 b (by omega))).2.2.2.2.2 (by omega) (by omega)
    show cIby (B (g.2.2.2.1 b).2) (fun p => (g.2.2.2.2.2 29) (10 * (g.2.2.2.1 b).2 + p)) (fun k => (r.2.2.1 141) (240 * (g.2.2.2.1 b).2 + k)) _
    rw [(hB _ l2).1]
    exact c17' z
/-! they are dropped -/
def drH (h : pheap) (a : Nat) : pheap := hC (hset h a 0 (.int 0)) (a + 1) (flF (h.2.2 (a + 1)).2.2 0 10)
theorem drH_1 : (drH h a).1 = h.1 := rfl
theorem drH_u : (drH h a).2.1 = h.2.1 := rfl
theorem drH_o {b : Nat} (h1 : b ≠ a) (h2 : b ≠ a + 1) : (drH h a).2.2 b = h.2.2 b := by
  unfold drH
  rw [hC_o _ h2, hs_o _ _ h1]
theorem l_dropI2 (hh : 146 ≤ h.1) (ha : 146 ≤ a) (ha2 : a + 1 < h.1) (t1 : (h.2.2 a).1 = 6) (t2 : (h.2.2 a).2.2 6 = .ref (a + 1)) (t3 : (h.2.2 (a + 1)).1 = 23) (t4 : (h.2.2 (a + 1)).2.1 = 10) {f : Nat → Value} : ∀ m k, k + m = 10 → Go (d + 1) 137 7 [.ref a, .int (nI k)] [] (putR r0 (putX x (hC (hset h a 0 (.int 0)) (a + 1) (flF f 0 k)))) Q = Q none (putR r0 (putX x (hC (hset h a 0 (.int 0)) (a + 1) (flF f 0 10))))
  | 0, k, hk => by
    have : k = 10 := by omega
    subst this
    simp (disch := first | exact c1_i _ | exact c1_r _ | exact c1_n | exact c1_m | omega | assumption | (apply ac_l; omega) | (apply ac_r; omega) | decide | exact Or.inl rfl) only [e_137_7, e_137_8, e_137_10, e_137_26, Option.toList_some, Option.toList_none, List.cons_append, List.nil_append, catS_cons, catS_nil, cat_int, cat_long, cat_ref, cat_null, c1_i, c1_r, c1_n, c1_m, true_and, and_true, and_self, putR_1, putR_u, eq_self, Nat.reduceLT, Nat.reduceLeDiff, Nat.reduceAdd, Nat.reduceEqDiff, vk_i, vk_l, vk_r, vk_n, vk_0, vk_1, if_true, if_false, not_true_eq_false, not_false_eq_true, false_and, and_false, ne_eq, true_or, or_true, ite_not, reduceCtorEq, putX_1, putX_u, putX_hi, hset_Xhi, px_5, xf_5_0, xf_5_1, xI_5_1, xf_5_2, xR_0, xf_5_3, xI_5_3, xf_5_4, xI_5_4, xf_5_5, xf_5_6, xI_5_6, xf_5_7, xf_5_8, xf_5_9, xf_5_10, xf_5_11, xf_5_12, xf_5_13, xf_5_14, xf_5_15, xI_5_15, px_6, xA_6, px_18, xA_18, px_19, xf_19_0, xI_19_0, xf_19_1, xR_1, xf_19_2, xI_19_2, px_20, xf_20_0, xI_20_0, xf_20_1, xR_2, xf_20_2, xI_20_2, px_21, xf_21_0, xI_21_0, xf_21_1, xR_3, xf_21_2, xI_21_2, px_22, xf_22_0, xI_22_0, xf_22_1, xR_4, xf_22_2, xI_22_2, px_23, xf_23_0, xI_23_0, xf_23_1, xR_5, xf_23_2, xI_23_2, px_24, xf_24_0, xI_24_0, xf_24_1, xR_6, xf_24_2, xI_24_2, px_25, xf_25_0, xI_25_0, xf_25_1, xI_25_1, xf_25_2, xf_25_3, xI_25_3, xf_25_4, xf_25_5, xf_25_6, px_26, xA_26, px_27, px_28, xA_28, px_29, xA_29, px_30, xA_30, px_31, xA_31, px_32, xA_32, px_33, xA_33, px_34, xA_34, px_35, xA_35, px_36, xA_36, px_37, xA_37, px_38, xA_38, px_39, xA_39, px_40, xA_40, px_41, xA_41, px_42, xA_42, px_43, xA_43, px_44, xA_44, px_45, xA_45, px_46, xA_46, px_47, xA_47, px_48, xA_48, px_49, xA_49, px_50, xA_50, px_51, xA_51, px_52, xA_52, px_53, xA_53, px_54, xA_54, px_55, xA_55, px_56, xA_56, px_57, xA_57, px_58, xA_58, px_59, xA_59, px_60, xA_60, px_61, xA_61, px_62, xA_62, px_63, xA_63, px_64, xA_64, px_65, xA_65, px_66, xA_66, px_67, xA_67, px_68, xA_68, px_69, xA_69, px_70, xf_70_0, xI_70_0, xf_70_1, xI_70_1, xf_70_2, xI_70_2, xf_70_3, xf_70_4, px_71, xA_71, px_72, xA_72, ni_ixL, ni_clL, ni_add, ni_mul, ni_lt, ni_le, ni_eq, ni_clamp, ni_ix, ni_lt0, ni_0le, ni_ltL, ni_Llt, ni_leL, ni_Lle, ni_eqL, ni_addL, ni_Ladd, ni_mulL, ni_Lmul, ni_subL, ni_sub, ni_Lsub, le_t, le_f, lt_t, lt_f, eq_f, il_lt, il_l0, il_g0, il_l1, il_g1, il_l2, il_g2, il_l3, il_g3, il_l4, il_g4, il_l5, il_g5, il_l7, il_g7, il_l8, il_g8, il_l9, il_g9, il_l10, il_g10, il_l15, il_g15, il_l20, il_g20, il_l23, il_g23, il_l24, il_g24, il_l60, il_g60, il_l100, il_g100, il_l999, il_g999, il_l1000, il_g1000, putR_lo, hset_lo, putR_lt hh, rd_hi, wr_hi, hs_1, hs_s, hs_o, uv_s, uv_o, pv_0, pv_n, i1_0, bs_0, bs_1, im_lt, im_ge, im_eq, ni_em]
  | m + 1, k, hk => by
    have e1 : (hset h a 0 (.int 0)).2.2 (a + 1) = h.2.2 (a + 1) := hs_o _ _ (by omega)
    have e2 : (hC (hset h a 0 (.int 0)) (a + 1) (flF f 0 k)).2.2 a = ((h.2.2 a).1, (h.2.2 a).2.1, updV (h.2.2 a).2.2 0 (.int 0)) := by rw [hC_o _ (by omega), hs_s]
    rw [← l_dropI2 hh ha ha2 t1 t2 t3 t4 m (k + 1) (by omega), e_137_7]
    simp (disch := first | exact c1_i _ | exact c1_r _ | exact c1_n | exact c1_m | omega | assumption | (apply ac_l; omega) | (apply ac_r; omega) | decide | exact Or.inl rfl) only [e_137_8, e_137_10, e_137_13, e_137_13n, e_137_14, e_137_17, e_137_18, e_137_19, e_137_20, e_137_23, Option.toList_some, Option.toList_none, List.cons_append, List.nil_append, catS_cons, catS_nil, cat_int, cat_long, cat_ref, cat_null, c1_i, c1_r, c1_n, c1_m, true_and, and_true, and_self, putR_1, putR_u, eq_self, Nat.reduceLT, Nat.reduceLeDiff, Nat.reduceAdd, Nat.reduceEqDiff, vk_i, vk_l, vk_r, vk_n, vk_0, vk_1, if_true, if_false, not_true_eq_false, not_false_eq_true, false_and, and_false, ne_eq, true_or, or_true, ite_not, reduceCtorEq, putX_1, putX_u, putX_hi, hset_Xhi, px_5, xf_5_0, xf_5_1, xI_5_1, xf_5_2, xR_0, xf_5_3, xI_5_3, xf_5_4, xI_5_4, xf_5_5, xf_5_6, xI_5_6, xf_5_7, xf_5_8, xf_5_9, xf_5_10, xf_5_11, xf_5_12, xf_5_13, xf_5_14, xf_5_15, xI_5_15, px_6, xA_6, px_18, xA_18, px_19, xf_19_0, xI_19_0, xf_19_1, xR_1, xf_19_2, xI_19_2, px_20, xf_20_0, xI_20_0, xf_20_1, xR_2, xf_20_2, xI_20_2, px_21, xf_21_0, xI_21_0, xf_21_1, xR_3, xf_21_2, xI_21_2, px_22, xf_22_0, xI_22_0, xf_22_1, xR_4, xf_22_2, xI_22_2, px_23, xf_23_0, xI_23_0, xf_23_1, xR_5, xf_23_2, xI_23_2, px_24, xf_24_0, xI_24_0, xf_24_1, xR_6, xf_24_2, xI_24_2, px_25, xf_25_0, xI_25_0, xf_25_1, xI_25_1, xf_25_2, xf_25_3, xI_25_3, xf_25_4, xf_25_5, xf_25_6, px_26, xA_26, px_27, px_28, xA_28, px_29, xA_29, px_30, xA_30, px_31, xA_31, px_32, xA_32, px_33, xA_33, px_34, xA_34, px_35, xA_35, px_36, xA_36, px_37, xA_37, px_38, xA_38, px_39, xA_39, px_40, xA_40, px_41, xA_41, px_42, xA_42, px_43, xA_43, px_44, xA_44, px_45, xA_45, px_46, xA_46, px_47, xA_47, px_48, xA_48, px_49, xA_49, px_50, xA_50, px_51, xA_51, px_52, xA_52, px_53, xA_53, px_54, xA_54, px_55, xA_55, px_56, xA_56, px_57, xA_57, px_58, xA_58, px_59, xA_59, px_60, xA_60, px_61, xA_61, px_62, xA_62, px_63, xA_63, px_64, xA_64, px_65, xA_65, px_66, xA_66, px_67, xA_67, px_68, xA_68, px_69, xA_69, px_70, xf_70_0, xI_70_0, xf_70_1, xI_70_1, xf_70_2, xI_70_2, xf_70_3, xf_70_4, px_71, xA_71, px_72, xA_72, ni_ixL, ni_clL, ni_add, ni_mul, ni_lt, ni_le, ni_eq, ni_clamp, ni_ix, ni_lt0, ni_0le, ni_ltL, ni_Llt, ni_leL, ni_Lle, ni_eqL, ni_addL, ni_Ladd, ni_mulL, ni_Lmul, ni_subL, ni_sub, ni_Lsub, le_t, le_f, lt_t, lt_f, eq_f, il_lt, il_l0, il_g0, il_l1, il_g1, il_l2, il_g2, il_l3, il_g3, il_l4, il_g4, il_l5, il_g5, il_l7, il_g7, il_l8, il_g8, il_l9, il_g9, il_l10, il_g10, il_l15, il_g15, il_l20, il_g20, il_l23, il_g23, il_l24, il_g24, il_l60, il_g60, il_l100, il_g100, il_l999, il_g999, il_l1000, il_g1000, putR_lo, hset_lo, putR_lt hh, rd_hi, wr_hi, hs_1, hs_s, hs_o, uv_s, uv_o, pv_0, pv_n, i1_0, bs_0, bs_1, im_lt, im_ge, im_eq, ni_em, e2, e1, t1, t2, t3, t4, hC_1, hC_s, hset_C, flF_u]
theorem x_drop (hs : Sim K g r x h) (hj : j < 120 ∧ (g.2.2.2.2.2 23) j ≠ 0) : Go (d + 1) 137 0 [.ref ((g.2.2.2.2.2 23) j), mk0] [] (putR r0 (putX x h)) Q = Q none (putR r0 (putX x (drH h ((g.2.2.2.2.2 23) j)))) := by
  have hh := sim_146 hs
  obtain ⟨a1, a2, t, q0, q1, q2, q3, q4, q5, q6, q7⟩ := s_inc hs hj
  obtain ⟨b1, b2, b3, b4, b5⟩ := s_ihe hs hj
  have e := l_dropI2 (d := d) (r0 := r0) (x := x) (Q := Q) (f := (h.2.2 ((g.2.2.2.2.2 23) j + 1)).2.2) hh a1 b2 t q6 b3 b4 10 0 (by omega)
  have e0 : flF (h.2.2 ((g.2.2.2.2.2 23) j + 1)).2.2 0 0 = (h.2.2 ((g.2.2.2.2.2 23) j + 1)).2.2 := funext fun y => if_neg (by omega)
  have e1 : (hset h ((g.2.2.2.2.2 23) j) 0 (.int 0)).2.2 ((g.2.2.2.2.2 23) j + 1) = h.2.2 ((g.2.2.2.2.2 23) j + 1) := hs_o _ _ (by omega)
  have e2 : hC (hset h ((g.2.2.2.2.2 23) j) 0 (.int 0)) ((g.2.2.2.2.2 23) j + 1) (h.2.2 ((g.2.2.2.2.2 23) j + 1)).2.2 = hset h ((g.2.2.2.2.2 23) j) 0 (.int 0) := by
    rw [← e1]
    exact hC_i
  rw [e0, e2] at e
  refine Eq.trans ?_ e
  simp (disch := first | exact c1_i _ | exact c1_r _ | exact c1_n | exact c1_m | omega | assumption | (apply ac_l; omega) | (apply ac_r; omega) | decide | exact Or.inl rfl) only [e_137_0, e_137_0n, e_137_1, e_137_2, e_137_5, e_137_6, Option.toList_some, Option.toList_none, List.cons_append, List.nil_append, catS_cons, catS_nil, cat_int, cat_long, cat_ref, cat_null, c1_i, c1_r, c1_n, c1_m, true_and, and_true, and_self, putR_1, putR_u, eq_self, Nat.reduceLT, Nat.reduceLeDiff, Nat.reduceAdd, Nat.reduceEqDiff, vk_i, vk_l, vk_r, vk_n, vk_0, vk_1, if_true, if_false, not_true_eq_false, not_false_eq_true, false_and, and_false, ne_eq, true_or, or_true, ite_not, reduceCtorEq, putX_1, putX_u, putX_hi, hset_Xhi, px_5, xf_5_0, xf_5_1, xI_5_1, xf_5_2, xR_0, xf_5_3, xI_5_3, xf_5_4, xI_5_4, xf_5_5, xf_5_6, xI_5_6, xf_5_7, xf_5_8, xf_5_9, xf_5_10, xf_5_11, xf_5_12, xf_5_13, xf_5_14, xf_5_15, xI_5_15, px_6, xA_6, px_18, xA_18, px_19, xf_19_0, xI_19_0, xf_19_1, xR_1, xf_19_2, xI_19_2, px_20, xf_20_0, xI_20_0, xf_20_1, xR_2, xf_20_2, xI_20_2, px_21, xf_21_0, xI_21_0, xf_21_1, xR_3, xf_21_2, xI_21_2, px_22, xf_22_0, xI_22_0, xf_22_1, xR_4, xf_22_2, xI_22_2, px_23, xf_23_0, xI_23_0, xf_23_1, xR_5, xf_23_2, xI_23_2, px_24, xf_24_0, xI_24_0, xf_24_1, xR_6, xf_24_2, xI_24_2, px_25, xf_25_0, xI_25_0, xf_25_1, xI_25_1, xf_25_2, xf_25_3, xI_25_3, xf_25_4, xf_25_5, xf_25_6, px_26, xA_26, px_27, px_28, xA_28, px_29, xA_29, px_30, xA_30, px_31, xA_31, px_32, xA_32, px_33, xA_33, px_34, xA_34, px_35, xA_35, px_36, xA_36, px_37, xA_37, px_38, xA_38, px_39, xA_39, px_40, xA_40, px_41, xA_41, px_42, xA_42, px_43, xA_43, px_44, xA_44, px_45, xA_45, px_46, xA_46, px_47, xA_47, px_48, xA_48, px_49, xA_49, px_50, xA_50, px_51, xA_51, px_52, xA_52, px_53, xA_53, px_54, xA_54, px_55, xA_55, px_56, xA_56, px_57, xA_57, px_58, xA_58, px_59, xA_59, px_60, xA_60, px_61, xA_61, px_62, xA_62, px_63, xA_63, px_64, xA_64, px_65, xA_65, px_66, xA_66, px_67, xA_67, px_68, xA_68, px_69, xA_69, px_70, xf_70_0, xI_70_0, xf_70_1, xI_70_1, xf_70_2, xI_70_2, xf_70_3, xf_70_4, px_71, xA_71, px_72, xA_72, ni_ixL, ni_clL, ni_add, ni_mul, ni_lt, ni_le, ni_eq, ni_clamp, ni_ix, ni_lt0, ni_0le, ni_ltL, ni_Llt, ni_leL, ni_Lle, ni_eqL, ni_addL, ni_Ladd, ni_mulL, ni_Lmul, ni_subL, ni_sub, ni_Lsub, le_t, le_f, lt_t, lt_f, eq_f, il_lt, il_l0, il_g0, il_l1, il_g1, il_l2, il_g2, il_l3, il_g3, il_l4, il_g4, il_l5, il_g5, il_l7, il_g7, il_l8, il_g8, il_l9, il_g9, il_l10, il_g10, il_l15, il_g15, il_l20, il_g20, il_l23, il_g23, il_l24, il_g24, il_l60, il_g60, il_l100, il_g100, il_l999, il_g999, il_l1000, il_g1000, putR_lo, hset_lo, putR_lt hh, rd_hi, wr_hi, hs_1, hs_s, hs_o, uv_s, uv_o, pv_0, pv_n, i1_0, bs_0, bs_1, im_lt, im_ge, im_eq, ni_em, t]
  rfl
theorem op_drop (hs : Sim K g r x h) (hj : j < 120 ∧ (g.2.2.2.2.2 23) j ≠ 0) (hof : ∀ i, i < 120 → (g.2.2.2.2.2 23) i ≠ 0 → (g.2.2.2.2.2 30) i ≤ 10) (hsz : ∀ i p, i < 120 → p < 10 → (g.2.2.2.2.2 29) (10 * i + p) ≤ 24) : Sim K (icG g (upN ((g.2.2.2.2.2 31)) j 0) (upN ((g.2.2.2.2.2 30)) j 0) ((g.2.2.2.2.2 29))) r x (drH h ((g.2.2.2.2.2 23) j)) := by
  obtain ⟨a1, a2, t, q0, q1, q2, q3, q4, q5, q6, q7⟩ := s_inc hs hj
  obtain ⟨b1, b2, b3, b4, b5⟩ := s_ihe hs hj
  obtain ⟨c1, c2, c3, c4, c5, c6⟩ := s_iby hs hj
  have hb0 : ∀ p, bt 0 p = true → False := fun p z => by
    unfold bt at z
    rw [Nat.zero_testBit] at z
    cases z
  have hd1 : (drH h ((g.2.2.2.2.2 23) j)).2.2 ((g.2.2.2.2.2 23) j) = ((h.2.2 ((g.2.2.2.2.2 23) j)).1, (h.2.2 ((g.2.2.2.2.2 23) j)).2.1, updV (h.2.2 ((g.2.2.2.2.2 23) j)).2.2 0 (.int 0)) := by
    unfold drH
    rw [hC_o _ (by omega), hs_s]
  have hd2 : (drH h ((g.2.2.2.2.2 23) j)).2.2 ((g.2.2.2.2.2 23) j + 1) = ((h.2.2 ((g.2.2.2.2.2 23) j + 1)).1, (h.2.2 ((g.2.2.2.2.2 23) j + 1)).2.1, flF (h.2.2 ((g.2.2.2.2.2 23) j + 1)).2.2 0 10) := by
    unfold drH
    rw [hC_s, hs_o _ _ (by omega)]
  have e := op_inc (g := g) (r := r) (h' := drH h ((g.2.2.2.2.2 23) j)) (B := upN ((g.2.2.2.2.2 31)) j 0) (O := upN ((g.2.2.2.2.2 30)) j 0) (S := (g.2.2.2.2.2 29)) (G := (r.2.2.1 141)) hs hj hof hsz (fun i hi => upN_n _ _ hi) (fun i hi => upN_n _ _ hi) (fun _ _ _ _ => rfl) (fun _ _ _ _ => rfl) rfl (fun b y1 y2 y3 => drH_o y1 y2) ?_ ?_ ?_
  · rw [sR_i] at e
    exact e
  · rw [upN_s, upN_s, hd1]
    obtain ⟨u1, q1⟩ := q1
    obtain ⟨u2, q2⟩ := q2
    obtain ⟨u3, q3, -⟩ := q3
    obtain ⟨u4, q4, -⟩ := q4
    obtain ⟨u5, q5⟩ := q5
    exact ⟨t, rfl, ⟨u1, q1⟩, ⟨u2, q2⟩, ⟨u3, q3, fun z => absurd rfl z⟩, ⟨u4, q4, fun z => (hb0 _ z).elim⟩, ⟨u5, q5⟩, q6, q7⟩
  · rw [upN_s, hd2]
    refine ⟨b3, b4, fun k hk => ?_⟩
    show flF _ 0 10 k = Value.int (if bt 0 k = true then 1 else 0)
    rw [if_neg (fun z => hb0 _ z)]
    exact if_pos hk
  · rw [upN_s, drH_o (by omega) (by omega)]
    exact ⟨c3, c4, c5, fun p hp z => (hb0 _ z).elim⟩
end
