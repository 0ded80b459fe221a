section
variable {K : Nat → pcell} {tb : Nat} {g g' g1 g2 : gS} {r r' r0 r1 r2 s' : rS} {x x' x1 x2 xb : xS} {h h' h1 h2 : pheap} {a n k m i c p q d va ta L n1 n2 u1 u2 : Nat} {Q : Option Value → pheap → Prop} {nt e : Int32}
/-- a call may end -/
def EP (g : gS) (r : rS) (c : Nat) : Prop := ((g.2.2.2.2.2 14) c = (g.2.2.2.2.2 15) c → (r.2.2.1 118) c = 0) ∧ ((g.2.2.2.2.2 14) c ≠ (g.2.2.2.2.2 15) c → (g.2.2.2.2.2 34) c = 0 ∧ ((r.2.2.1 125) c = 1 ∨ (r.2.2.1 123) (240 * c + 2) ≠ (r.2.2.1 93) ((g.2.2.2.2.2 15) c))) ∧ ∀ i, i < (g.1 0 5) → (g.2.2.2.2.2 18) i = c + 1 → (r.2.2.1 118) i ≠ 0
theorem af_1 (hf : AF g r e L) : 1 ≤ L := by
  rcases hf with ⟨f1, n, l, f2⟩ | ⟨f1, m, f2, f3, f4, f5⟩
  · exact prs_le _ _ _ _ _ _ f2
  · omega
/-- the room that an end takes: a tree's answer is short -/
def eB (va : Nat) : Nat := if va = 0 then 73 else 245
theorem eB_le : eB va ≤ 245 := by unfold eB; split <;> omega
theorem eB_0 : eB 0 = 73 := rfl
theorem end_rem (hw : World K tb g r x h) (hc : c < (g.1 0 5)) (hrem : (g.2.2.2.2.2 14) c ≠ (g.2.2.2.2.2 15) c) (hep : EP g r c) (ho : Out g r h (eSort g r c) va ta m) : ∃ g' r' x' h', World K tb g' r' x' h' ∧ EF g' g h' h 2 (eB va) ∧ EX x' x ∧ ER r' r ∧
    (∀ d r0 Q, Go (d + 40) 108 0 [.ref 5, .ref ((g.1 6) c), pv va, pv ta] [] (putR r0 (putX x h)) Q = Q none (putR r0 (putX x' h'))) ∧
    (∀ d (H : pheap) Q, 146 ≤ H.1 → Go (d + 6) 238 0 [.ref 73, .int (nI c), mk0] [] (putR r H) Q = Q none (putR r' H)) := by
  obtain ⟨e1, e2, e3⟩ := hep
  obtain ⟨e4, e5⟩ := e2 hrem
  obtain ⟨g1, x1, r1, h1, L, M, ml, w1, w2, w3, w4, w5, w6, w7, w8, w9⟩ := ans_ok hw hc ho
  obtain ⟨y1, y2, y3, y4, y5, y6⟩ := w4
  have hg : ∀ a, g1.2.2.2.2.2 a = g.2.2.2.2.2 a := fun a => by rw [y2]
  have hgr : ∀ k, g1.1 k = g.1 k := fun k => by rw [y1]
  have hr : ∀ a, a ≠ 134 → a ≠ 135 → a ≠ 136 → a ≠ 137 → a ≠ 133 → a ≠ 138 → a ≠ 145 → a ≠ 131 → a ≠ 132 → a ≠ 88 → a ≠ 89 → r1.2.2.1 a = r.2.2.1 a := w2.2.2.1
  have rbe : (r1.2.2.1 125) = (r.2.2.1 125) := hr 125 (by decide) (by decide) (by decide) (by decide) (by decide) (by decide) (by decide) (by decide) (by decide) (by decide) (by decide)
  have rrq : (r1.2.2.1 123) = (r.2.2.1 123) := hr 123 (by decide) (by decide) (by decide) (by decide) (by decide) (by decide) (by decide) (by decide) (by decide) (by decide) (by decide)
  have rag : (r1.2.2.1 93) = (r.2.2.1 93) := hr 93 (by decide) (by decide) (by decide) (by decide) (by decide) (by decide) (by decide) (by decide) (by decide) (by decide) (by decide)
  have rst : (r1.2.2.1 118) = (r.2.2.1 118) := hr 118 (by decide) (by decide) (by decide) (by decide) (by decide) (by decide) (by decide) (by decide) (by decide) (by decide) (by decide)
  have rms : (r1.2.2.1 84) = (r.2.2.1 84) := hr 84 (by decide) (by decide) (by decide) (by decide) (by decide) (by decide) (by decide) (by decide) (by decide) (by decide) (by decide)
  have hes : eSort g1 r1 c = eSort g r c := by
    unfold eSort
    rw [hg 17, hg 13, hg 16, rms]
  have hf : AF g1 r1 (eSort g1 r1 c) L := by rw [hes]; exact w6
  obtain ⟨g', r', x', h', v1, v2, v3, v6, v4, v5⟩ := shelf_ok w1 (by rw [hgr]; exact hc) (by rw [hg 14, hg 15]; exact hrem) (by rw [hg 34]; exact e4) (by rw [rbe, rrq, rag, hg 15]; exact e5) (fun i hi hio => by rw [rst]; rw [hgr] at hi; rw [hg 18] at hio; exact e3 i hi hio) w5 (af_1 hf) hf
  have hcal : (g1.1 6) c = (g.1 6) c := by rw [hgr]
  refine ⟨g', r', x', h', v1, ?_, ex_t v3 (ex_m w3), er_t v6 ⟨hr 122 (by decide) (by decide) (by decide) (by decide) (by decide) (by decide) (by decide) (by decide) (by decide) (by decide) (by decide), fun j hj => by rw [rst] at hj; exact hj⟩, fun d r0 Q => ?_, fun d H Q hH => ?_⟩
  · have := ef_t v2 (ef_gro (u := 5) ⟨y1, y2, y3, y4, y5, y6⟩)
    obtain ⟨t1, t2, t3, t4, t5, t6, t7⟩ := this
    refine ⟨t1, t2, t3, t4, by omega, ?_, t7⟩
    unfold eB
    by_cases hz : va = 0
    · rw [if_pos hz]
      obtain ⟨z1, z2⟩ := w9 hz
      have := v2.2.2.2.2.2.1
      rw [z1] at this
      omega
    · rw [if_neg hz]
      have := w5.2.2.2.2.1
      omega
  · have e := v4 d r0 Q (pv va) (pv ta)
    rw [hcal] at e
    rw [w7 d r0 Q, e]
  · rw [w8 d H Q hH, v5 d H Q hH]
theorem end_ok : ∀ n c, c < n → ∀ g r h, World K tb g r x h → c < (g.1 0 5) → EP g r c → Out g r h (eSort g r c) va ta m → ∃ g' r' x' h', World K tb g' r' x' h' ∧ EF g' g h' h 2 (eB va) ∧ EX x' x ∧ ER r' r ∧
    (∀ d r0 Q y i, i + c ≤ 60 → Go (d + 41) 107 6 [.ref 5, y, pv va, pv ta, .ref ((g.1 6) c), .int (nI i)] [] (putR r0 (putX x h)) Q = Q none (putR r0 (putX x' h'))) ∧
    (∀ d (H : pheap) Q (y : Int32), 146 ≤ H.1 → Go (d + 7) 235 2 [.ref 73, .int y, .int (nI c)] [] (putR r H) Q = Q none (putR r' H))
  | 0, c, hn => absurd hn (by omega)
  | n + 1, c, hn => fun g r h hw hc hep ho => by
    have hh := sim_146 hw.1
    obtain ⟨n1, n2, n3⟩ := w_nc hw
    obtain ⟨d1, d2, -⟩ := w_nd hw
    obtain ⟨a1, a2, ⟨t, q0, q1, q2, q3, q4, q5, q6, q7, q8, q9, q10, q11, q12, q13, q14, q15, q16⟩⟩ := s_cal hw.1 hc
    obtain ⟨u1, u2, u3, u4, u5, u6, u7, u8, u9, u10, u11, u12, u13, u14, u15, u16, u17, u18, u19, u20, u21, u22, u23, u24⟩ := w_cal hw c hc
    obtain ⟨k1, -⟩ := w_kept hw c hc
    by_cases hloc : (g.2.2.2.2.2 14) c = (g.2.2.2.2.2 15) c
    · obtain ⟨g1, r1, h1, w1, w2, w3, w4, w5, w6, w7, w8, w9⟩ := end_loc hw hc (hep.1 hloc) hloc hep.2.2 ho
      have hh1 := sim_146 w1.1
      have her : ER r1 r := ⟨w6 122 (by decide) (by decide) (by decide) (by decide) (by decide), fun j hj => by
        by_cases e : j = c
        · rw [e] at hj
          exact absurd hj w4
        · rw [w5 j e] at hj
          exact hj⟩
      by_cases hz : (g.2.2.2.2.2 18) c = 0
      · refine ⟨g1, r1, x, h1, w1, ?_, ⟨rfl, fun _ _ _ => rfl⟩, her, fun d r0 Q y i hi => ?_, fun d H Q y hH => ?_⟩
        · obtain ⟨t1, t2, t3, t4, t5, t6, t7⟩ := w2
          exact ⟨t1, t2, t3, t4, by omega, by omega, t7⟩
        · have e := w8 (d + 39) r0 Q y i (by omega)
          rw [if_pos hz, pv_0] at e
          rw [show d + 41 = d + 39 + 2 from rfl, e]
          by_cases hi6 : i + 1 ≤ 60
          · simp (disch := first | exact c1_i _ | exact c1_r _ | exact c1_n | exact c1_m | omega | assumption | (apply ac_l; omega) | (apply ac_r; omega) | decide | exact Or.inl rfl) only [e_107_6, e_107_8, e_107_10, e_107_13, e_107_13n, e_107_15n, e_107_15, e_107_55, Option.toList_some, Option.toList_none, List.cons_append, List.nil_append, catS_cons, catS_nil, cat_int, cat_long, cat_ref, cat_null, c1_i, c1_r, c1_n, c1_m, true_and, and_true, and_self, putR_1, putR_u, eq_self, Nat.reduceLT, Nat.reduceLeDiff, Nat.reduceAdd, Nat.reduceEqDiff, vk_i, vk_l, vk_r, vk_n, vk_0, vk_1, if_true, if_false, not_true_eq_false, not_false_eq_true, false_and, and_false, ne_eq, true_or, or_true, ite_not, reduceCtorEq, putX_1, putX_u, putX_hi, hset_Xhi, px_5, xf_5_0, xf_5_1, xI_5_1, xf_5_2, xR_0, xf_5_3, xI_5_3, xf_5_4, xI_5_4, xf_5_5, xf_5_6, xI_5_6, xf_5_7, xf_5_8, xf_5_9, xf_5_10, xf_5_11, xf_5_12, xf_5_13, xf_5_14, xf_5_15, xI_5_15, px_6, xA_6, px_18, xA_18, px_19, xf_19_0, xI_19_0, xf_19_1, xR_1, xf_19_2, xI_19_2, px_20, xf_20_0, xI_20_0, xf_20_1, xR_2, xf_20_2, xI_20_2, px_21, xf_21_0, xI_21_0, xf_21_1, xR_3, xf_21_2, xI_21_2, px_22, xf_22_0, xI_22_0, xf_22_1, xR_4, xf_22_2, xI_22_2, px_23, xf_23_0, xI_23_0, xf_23_1, xR_5, xf_23_2, xI_23_2, px_24, xf_24_0, xI_24_0, xf_24_1, xR_6, xf_24_2, xI_24_2, px_25, xf_25_0, xI_25_0, xf_25_1, xI_25_1, xf_25_2, xf_25_3, xI_25_3, xf_25_4, xf_25_5, xf_25_6, px_26, xA_26, px_27, px_28, xA_28, px_29, xA_29, px_30, xA_30, px_31, xA_31, px_32, xA_32, px_33, xA_33, px_34, xA_34, px_35, xA_35, px_36, xA_36, px_37, xA_37, px_38, xA_38, px_39, xA_39, px_40, xA_40, px_41, xA_41, px_42, xA_42, px_43, xA_43, px_44, xA_44, px_45, xA_45, px_46, xA_46, px_47, xA_47, px_48, xA_48, px_49, xA_49, px_50, xA_50, px_51, xA_51, px_52, xA_52, px_53, xA_53, px_54, xA_54, px_55, xA_55, px_56, xA_56, px_57, xA_57, px_58, xA_58, px_59, xA_59, px_60, xA_60, px_61, xA_61, px_62, xA_62, px_63, xA_63, px_64, xA_64, px_65, xA_65, px_66, xA_66, px_67, xA_67, px_68, xA_68, px_69, xA_69, px_70, xf_70_0, xI_70_0, xf_70_1, xI_70_1, xf_70_2, xI_70_2, xf_70_3, xf_70_4, px_71, xA_71, px_72, xA_72, ni_ixL, ni_clL, ni_add, ni_mul, ni_lt, ni_le, ni_eq, ni_clamp, ni_ix, ni_lt0, ni_0le, ni_ltL, ni_Llt, ni_leL, ni_Lle, ni_eqL, ni_addL, ni_Ladd, ni_mulL, ni_Lmul, ni_subL, ni_sub, ni_Lsub, le_t, le_f, lt_t, lt_f, eq_f, il_lt, il_l0, il_g0, il_l1, il_g1, il_l2, il_g2, il_l3, il_g3, il_l4, il_g4, il_l5, il_g5, il_l7, il_g7, il_l8, il_g8, il_l9, il_g9, il_l10, il_g10, il_l15, il_g15, il_l20, il_g20, il_l23, il_g23, il_l24, il_g24, il_l60, il_g60, il_l100, il_g100, il_l999, il_g999, il_l1000, il_g1000, putR_lo, hset_lo, putR_lt hh, rd_hi, wr_hi, hs_1, hs_s, hs_o, uv_s, uv_o, pv_0, pv_n, i1_0, bs_0, bs_1, im_lt, im_ge, im_eq, ni_em, hi6]
          · simp (disch := first | exact c1_i _ | exact c1_r _ | exact c1_n | exact c1_m | omega | assumption | (apply ac_l; omega) | (apply ac_r; omega) | decide | exact Or.inl rfl) only [e_107_6, e_107_8, e_107_10, e_107_13, e_107_13n, e_107_15n, e_107_15, e_107_55, Option.toList_some, Option.toList_none, List.cons_append, List.nil_append, catS_cons, catS_nil, cat_int, cat_long, cat_ref, cat_null, c1_i, c1_r, c1_n, c1_m, true_and, and_true, and_self, putR_1, putR_u, eq_self, Nat.reduceLT, Nat.reduceLeDiff, Nat.reduceAdd, Nat.reduceEqDiff, vk_i, vk_l, vk_r, vk_n, vk_0, vk_1, if_true, if_false, not_true_eq_false, not_false_eq_true, false_and, and_false, ne_eq, true_or, or_true, ite_not, reduceCtorEq, putX_1, putX_u, putX_hi, hset_Xhi, px_5, xf_5_0, xf_5_1, xI_5_1, xf_5_2, xR_0, xf_5_3, xI_5_3, xf_5_4, xI_5_4, xf_5_5, xf_5_6, xI_5_6, xf_5_7, xf_5_8, xf_5_9, xf_5_10, xf_5_11, xf_5_12, xf_5_13, xf_5_14, xf_5_15, xI_5_15, px_6, xA_6, px_18, xA_18, px_19, xf_19_0, xI_19_0, xf_19_1, xR_1, xf_19_2, xI_19_2, px_20, xf_20_0, xI_20_0, xf_20_1, xR_2, xf_20_2, xI_20_2, px_21, xf_21_0, xI_21_0, xf_21_1, xR_3, xf_21_2, xI_21_2, px_22, xf_22_0, xI_22_0, xf_22_1, xR_4, xf_22_2, xI_22_2, px_23, xf_23_0, xI_23_0, xf_23_1, xR_5, xf_23_2, xI_23_2, px_24, xf_24_0, xI_24_0, xf_24_1, xR_6, xf_24_2, xI_24_2, px_25, xf_25_0, xI_25_0, xf_25_1, xI_25_1, xf_25_2, xf_25_3, xI_25_3, xf_25_4, xf_25_5, xf_25_6, px_26, xA_26, px_27, px_28, xA_28, px_29, xA_29, px_30, xA_30, px_31, xA_31, px_32, xA_32, px_33, xA_33, px_34, xA_34, px_35, xA_35, px_36, xA_36, px_37, xA_37, px_38, xA_38, px_39, xA_39, px_40, xA_40, px_41, xA_41, px_42, xA_42, px_43, xA_43, px_44, xA_44, px_45, xA_45, px_46, xA_46, px_47, xA_47, px_48, xA_48, px_49, xA_49, px_50, xA_50, px_51, xA_51, px_52, xA_52, px_53, xA_53, px_54, xA_54, px_55, xA_55, px_56, xA_56, px_57, xA_57, px_58, xA_58, px_59, xA_59, px_60, xA_60, px_61, xA_61, px_62, xA_62, px_63, xA_63, px_64, xA_64, px_65, xA_65, px_66, xA_66, px_67, xA_67, px_68, xA_68, px_69, xA_69, px_70, xf_70_0, xI_70_0, xf_70_1, xI_70_1, xf_70_2, xI_70_2, xf_70_3, xf_70_4, px_71, xA_71, px_72, xA_72, ni_ixL, ni_clL, ni_add, ni_mul, ni_lt, ni_le, ni_eq, ni_clamp, ni_ix, ni_lt0, ni_0le, ni_ltL, ni_Llt, ni_leL, ni_Lle, ni_eqL, ni_addL, ni_Ladd, ni_mulL, ni_Lmul, ni_subL, ni_sub, ni_Lsub, le_t, le_f, lt_t, lt_f, eq_f, il_lt, il_l0, il_g0, il_l1, il_g1, il_l2, il_g2, il_l3, il_g3, il_l4, il_g4, il_l5, il_g5, il_l7, il_g7, il_l8, il_g8, il_l9, il_g9, il_l10, il_g10, il_l15, il_g15, il_l20, il_g20, il_l23, il_g23, il_l24, il_g24, il_l60, il_g60, il_l100, il_g100, il_l999, il_g999, il_l1000, il_g1000, putR_lo, hset_lo, putR_lt hh, rd_hi, wr_hi, hs_1, hs_s, hs_o, uv_s, uv_o, pv_0, pv_n, i1_0, bs_0, bs_1, im_lt, im_ge, im_eq, ni_em, hi6]
        · have e := w9 (d + 4) H Q y hH
          rw [if_pos hz] at e
          rw [show d + 7 = d + 4 + 3 from rfl, e]
          simp (disch := first | exact c1_i _ | exact c1_r _ | exact c1_n | exact c1_m | omega | assumption | (apply ac_l; omega) | (apply ac_r; omega) | decide | exact Or.inl rfl) only [e_235_2, e_235_3, e_235_4, e_235_105, Option.toList_some, Option.toList_none, List.cons_append, List.nil_append, catS_cons, catS_nil, cat_int, cat_long, cat_ref, cat_null, c1_i, c1_r, c1_n, c1_m, true_and, and_true, and_self, putR_1, putR_u, eq_self, Nat.reduceLT, Nat.reduceLeDiff, Nat.reduceAdd, Nat.reduceEqDiff, vk_i, vk_l, vk_r, vk_n, vk_0, vk_1, if_true, if_false, not_true_eq_false, not_false_eq_true, false_and, and_false, ne_eq, true_or, or_true, ite_not, reduceCtorEq]
      · obtain ⟨v1, v2, v3⟩ := u24 hz
        have hon : (g.2.2.2.2.2 18) c - 1 < (g.1 0 5) := by omega
        obtain ⟨y1, y2, y3, y4, y5, y6⟩ := hw.2.2.2.2.2.2 ((g.2.2.2.2.2 18) c - 1) hon
        obtain ⟨z1, z2, z3, z4⟩ := y4 c hc (by omega)
        obtain ⟨z5, z6⟩ := z3 (hep.1 hloc)
        have w2' := w2
        obtain ⟨t1, t2, t3, t4, t5, t6, t7⟩ := w2
        have hgr : ∀ k, g1.1 k = g.1 k := fun k => by rw [t1]
        have gca : (g1.2.2.2.2.2 14) = (g.2.2.2.2.2 14) := t3 14 (by decide) (by decide) (by decide) (by decide) (by decide) (by decide) (by decide)
        have gsv : (g1.2.2.2.2.2 15) = (g.2.2.2.2.2 15) := t3 15 (by decide) (by decide) (by decide) (by decide) (by decide) (by decide) (by decide)
        have gou : (g1.2.2.2.2.2 18) = (g.2.2.2.2.2 18) := t3 18 (by decide) (by decide) (by decide) (by decide) (by decide) (by decide) (by decide)
        have gob : (g1.2.2.2.2.2 17) = (g.2.2.2.2.2 17) := t3 17 (by decide) (by decide) (by decide) (by decide) (by decide) (by decide) (by decide)
        have gos : (g1.2.2.2.2.2 13) = (g.2.2.2.2.2 13) := t3 13 (by decide) (by decide) (by decide) (by decide) (by decide) (by decide) (by decide)
        have gcm : (g1.2.2.2.2.2 16) = (g.2.2.2.2.2 16) := t3 16 (by decide) (by decide) (by decide) (by decide) (by decide) (by decide) (by decide)
        have rbe : (r1.2.2.1 125) = (r.2.2.1 125) := w6 125 (by decide) (by decide) (by decide) (by decide) (by decide)
        have rrq : (r1.2.2.1 123) = (r.2.2.1 123) := w6 123 (by decide) (by decide) (by decide) (by decide) (by decide)
        have rag : (r1.2.2.1 93) = (r.2.2.1 93) := w6 93 (by decide) (by decide) (by decide) (by decide) (by decide)
        have rms : (r1.2.2.1 84) = (r.2.2.1 84) := w6 84 (by decide) (by decide) (by decide) (by decide) (by decide)
        have hes : eSort g1 r1 ((g.2.2.2.2.2 18) c - 1) = eSort g r c := by
          unfold eSort
          rw [gob, gos, gcm, rms, if_neg v1, if_neg v2]
          exact v3.symm
        have hep1 : EP g1 r1 ((g.2.2.2.2.2 18) c - 1) := by
          refine ⟨fun q => ?_, fun q => ?_, fun i hi hio => ?_⟩
          · rw [gca, gsv] at q
            rw [w5 _ (by omega)]
            exact z5 q
          · rw [gca, gsv] at q
            rw [w7, rbe, rrq, rag, gsv]
            exact ⟨z6 q, y2 q (Or.inr ⟨c, hc, by omega⟩)⟩
          · rw [hgr] at hi
            rw [gou] at hio
            have := z4 i hi hio
            rw [← this]
            exact w4
        obtain ⟨g', r', x', h', f1, f2, f3, f6, f4, f5⟩ := end_ok n ((g.2.2.2.2.2 18) c - 1) (by omega) g1 r1 h1 w1 (by rw [hgr]; exact hon) hep1 (by rw [hes]; exact w3 _ ho)
        have hcal : (g1.1 6) ((g.2.2.2.2.2 18) c - 1) = (g.1 6) ((g.2.2.2.2.2 18) c - 1) := by rw [hgr]
        have hoc : (g.1 6) ((g.2.2.2.2.2 18) c - 1) ≠ 0 := by
          have := (hw.1.2.1.1 _ _ (ref_cal (x2 := x.2) (g := g) hon)).1
          omega
        refine ⟨g', r', x', h', f1, ?_, f3, er_t f6 her, fun d r0 Q y i hi => ?_, fun d H Q y hH => ?_⟩
        · have := ef_t f2 w2'
          exact this
        · have e := w8 (d + 39) r0 Q y i (by omega)
          rw [if_neg hz, pv_n hoc] at e
          have e2 := f4 d r0 Q y (i + 1) (by omega)
          rw [hcal] at e2
          rw [show d + 41 = d + 39 + 2 from rfl, e]
          exact e2
        · have e := w9 (d + 4) H Q y hH
          rw [if_neg hz] at e
          rw [show d + 7 = d + 4 + 3 from rfl, e]
          exact f5 d H Q y hH
    · obtain ⟨g', r', x', h', f1, f2, f3, f6, f4, f5⟩ := end_rem hw hc hloc hep ho
      have hrq : (g.2.2.2.2.2 19) c ≠ 0 := fun z => hloc (k1.mp z)
      rw [pv_n hrq] at q11
      have hva : (va = 0 ∧ ta ≠ 0) ∨ (va ≠ 0 ∧ ta = 0) := by
        rcases ho with ⟨o1, o2, o3, -⟩ | ⟨o1, o2, o3, -⟩
        · exact Or.inr ⟨o2, o3⟩
        · exact Or.inl ⟨o2, o3⟩
      refine ⟨g', r', x', h', f1, f2, f3, f6, fun d r0 Q y i hi => ?_, fun d H Q y hH => ?_⟩
      · have e := fun Q => f4 d r0 Q
        rw [e_107_6]
        rcases hva with ⟨z1, z2⟩ | ⟨z1, z2⟩
        · have ev : pv va = .null := by rw [z1]; exact pv_0
          simp only [ev, pv_n z2] at e ⊢
          simp (disch := first | exact c1_i _ | exact c1_r _ | exact c1_n | exact c1_m | omega | assumption | (apply ac_l; omega) | (apply ac_r; omega) | decide | exact Or.inl rfl) only [e_107_8, e_107_10, e_107_13, e_107_13n, e_107_15n, e_107_15, e_107_18, e_107_18n, e_107_20, e_107_23n, e_107_23, e_107_26, e_107_26n, e_107_27, e_107_27n, e_107_29, e_107_29n, e_107_30, e_107_30n, e_107_31, e_107_34, e_107_35, e_107_35n, e_107_37, e_107_37n, e_107_38, e_107_38n, e_107_39, e_107_42, e_107_42n, e_107_44, e_107_47, e_107_47n, e_107_49, e_107_52, Option.toList_some, Option.toList_none, List.cons_append, List.nil_append, catS_cons, catS_nil, cat_int, cat_long, cat_ref, cat_null, c1_i, c1_r, c1_n, c1_m, true_and, and_true, and_self, putR_1, putR_u, eq_self, Nat.reduceLT, Nat.reduceLeDiff, Nat.reduceAdd, Nat.reduceEqDiff, vk_i, vk_l, vk_r, vk_n, vk_0, vk_1, if_true, if_false, not_true_eq_false, not_false_eq_true, false_and, and_false, ne_eq, true_or, or_true, ite_not, reduceCtorEq, putX_1, putX_u, putX_hi, hset_Xhi, px_5, xf_5_0, xf_5_1, xI_5_1, xf_5_2, xR_0, xf_5_3, xI_5_3, xf_5_4, xI_5_4, xf_5_5, xf_5_6, xI_5_6, xf_5_7, xf_5_8, xf_5_9, xf_5_10, xf_5_11, xf_5_12, xf_5_13, xf_5_14, xf_5_15, xI_5_15, px_6, xA_6, px_18, xA_18, px_19, xf_19_0, xI_19_0, xf_19_1, xR_1, xf_19_2, xI_19_2, px_20, xf_20_0, xI_20_0, xf_20_1, xR_2, xf_20_2, xI_20_2, px_21, xf_21_0, xI_21_0, xf_21_1, xR_3, xf_21_2, xI_21_2, px_22, xf_22_0, xI_22_0, xf_22_1, xR_4, xf_22_2, xI_22_2, px_23, xf_23_0, xI_23_0, xf_23_1, xR_5, xf_23_2, xI_23_2, px_24, xf_24_0, xI_24_0, xf_24_1, xR_6, xf_24_2, xI_24_2, px_25, xf_25_0, xI_25_0, xf_25_1, xI_25_1, xf_25_2, xf_25_3, xI_25_3, xf_25_4, xf_25_5, xf_25_6, px_26, xA_26, px_27, px_28, xA_28, px_29, xA_29, px_30, xA_30, px_31, xA_31, px_32, xA_32, px_33, xA_33, px_34, xA_34, px_35, xA_35, px_36, xA_36, px_37, xA_37, px_38, xA_38, px_39, xA_39, px_40, xA_40, px_41, xA_41, px_42, xA_42, px_43, xA_43, px_44, xA_44, px_45, xA_45, px_46, xA_46, px_47, xA_47, px_48, xA_48, px_49, xA_49, px_50, xA_50, px_51, xA_51, px_52, xA_52, px_53, xA_53, px_54, xA_54, px_55, xA_55, px_56, xA_56, px_57, xA_57, px_58, xA_58, px_59, xA_59, px_60, xA_60, px_61, xA_61, px_62, xA_62, px_63, xA_63, px_64, xA_64, px_65, xA_65, px_66, xA_66, px_67, xA_67, px_68, xA_68, px_69, xA_69, px_70, xf_70_0, xI_70_0, xf_70_1, xI_70_1, xf_70_2, xI_70_2, xf_70_3, xf_70_4, px_71, xA_71, px_72, xA_72, ni_ixL, ni_clL, ni_add, ni_mul, ni_lt, ni_le, ni_eq, ni_clamp, ni_ix, ni_lt0, ni_0le, ni_ltL, ni_Llt, ni_leL, ni_Lle, ni_eqL, ni_addL, ni_Ladd, ni_mulL, ni_Lmul, ni_subL, ni_sub, ni_Lsub, le_t, le_f, lt_t, lt_f, eq_f, il_lt, il_l0, il_g0, il_l1, il_g1, il_l2, il_g2, il_l3, il_g3, il_l4, il_g4, il_l5, il_g5, il_l7, il_g7, il_l8, il_g8, il_l9, il_g9, il_l10, il_g10, il_l15, il_g15, il_l20, il_g20, il_l23, il_g23, il_l24, il_g24, il_l60, il_g60, il_l100, il_g100, il_l999, il_g999, il_l1000, il_g1000, putR_lo, hset_lo, putR_lt hh, rd_hi, wr_hi, hs_1, hs_s, hs_o, uv_s, uv_o, pv_0, pv_n, i1_0, bs_0, bs_1, im_lt, im_ge, im_eq, ni_em, t, q11, e]
        · have ev : pv ta = .null := by rw [z2]; exact pv_0
          simp only [ev, pv_n z1] at e ⊢
          simp (disch := first | exact c1_i _ | exact c1_r _ | exact c1_n | exact c1_m | omega | assumption | (apply ac_l; omega) | (apply ac_r; omega) | decide | exact Or.inl rfl) only [e_107_8, e_107_10, e_107_13, e_107_13n, e_107_15n, e_107_15, e_107_18, e_107_18n, e_107_20, e_107_23n, e_107_23, e_107_26, e_107_26n, e_107_27, e_107_27n, e_107_29, e_107_29n, e_107_30, e_107_30n, e_107_31, e_107_34, e_107_35, e_107_35n, e_107_37, e_107_37n, e_107_38, e_107_38n, e_107_39, e_107_42, e_107_42n, e_107_44, e_107_47, e_107_47n, e_107_49, e_107_52, Option.toList_some, Option.toList_none, List.cons_append, List.nil_append, catS_cons, catS_nil, cat_int, cat_long, cat_ref, cat_null, c1_i, c1_r, c1_n, c1_m, true_and, and_true, and_self, putR_1, putR_u, eq_self, Nat.reduceLT, Nat.reduceLeDiff, Nat.reduceAdd, Nat.reduceEqDiff, vk_i, vk_l, vk_r, vk_n, vk_0, vk_1, if_true, if_false, not_true_eq_false, not_false_eq_true, false_and, and_false, ne_eq, true_or, or_true, ite_not, reduceCtorEq, putX_1, putX_u, putX_hi, hset_Xhi, px_5, xf_5_0, xf_5_1, xI_5_1, xf_5_2, xR_0, xf_5_3, xI_5_3, xf_5_4, xI_5_4, xf_5_5, xf_5_6, xI_5_6, xf_5_7, xf_5_8, xf_5_9, xf_5_10, xf_5_11, xf_5_12, xf_5_13, xf_5_14, xf_5_15, xI_5_15, px_6, xA_6, px_18, xA_18, px_19, xf_19_0, xI_19_0, xf_19_1, xR_1, xf_19_2, xI_19_2, px_20, xf_20_0, xI_20_0, xf_20_1, xR_2, xf_20_2, xI_20_2, px_21, xf_21_0, xI_21_0, xf_21_1, xR_3, xf_21_2, xI_21_2, px_22, xf_22_0, xI_22_0, xf_22_1, xR_4, xf_22_2, xI_22_2, px_23, xf_23_0, xI_23_0, xf_23_1, xR_5, xf_23_2, xI_23_2, px_24, xf_24_0, xI_24_0, xf_24_1, xR_6, xf_24_2, xI_24_2, px_25, xf_25_0, xI_25_0, xf_25_1, xI_25_1, xf_25_2, xf_25_3, xI_25_3, xf_25_4, xf_25_5, xf_25_6, px_26, xA_26, px_27, px_28, xA_28, px_29, xA_29, px_30, xA_30, px_31, xA_31, px_32, xA_32, px_33, xA_33, px_34, xA_34, px_35, xA_35, px_36, xA_36, px_37, xA_37, px_38, xA_38, px_39, xA_39, px_40, xA_40, px_41, xA_41, px_42, xA_42, px_43, xA_43, px_44, xA_44, px_45, xA_45, px_46, xA_46, px_47, xA_47, px_48, xA_48, px_49, xA_49, px_50, xA_50, px_51, xA_51, px_52, xA_52, px_53, xA_53, px_54, xA_54, px_55, xA_55, px_56, xA_56, px_57, xA_57, px_58, xA_58, px_59, xA_59, px_60, xA_60, px_61, xA_61, px_62, xA_62, px_63, xA_63, px_64, xA_64, px_65, xA_65, px_66, xA_66, px_67, xA_67, px_68, xA_68, px_69, xA_69, px_70, xf_70_0, xI_70_0, xf_70_1, xI_70_1, xf_70_2, xI_70_2, xf_70_3, xf_70_4, px_71, xA_71, px_72, xA_72, ni_ixL, ni_clL, ni_add, ni_mul, ni_lt, ni_le, ni_eq, ni_clamp, ni_ix, ni_lt0, ni_0le, ni_ltL, ni_Llt, ni_leL, ni_Lle, ni_eqL, ni_addL, ni_Ladd, ni_mulL, ni_Lmul, ni_subL, ni_sub, ni_Lsub, le_t, le_f, lt_t, lt_f, eq_f, il_lt, il_l0, il_g0, il_l1, il_g1, il_l2, il_g2, il_l3, il_g3, il_l4, il_g4, il_l5, il_g5, il_l7, il_g7, il_l8, il_g8, il_l9, il_g9, il_l10, il_g10, il_l15, il_g15, il_l20, il_g20, il_l23, il_g23, il_l24, il_g24, il_l60, il_g60, il_l100, il_g100, il_l999, il_g999, il_l1000, il_g1000, putR_lo, hset_lo, putR_lt hh, rd_hi, wr_hi, hs_1, hs_s, hs_o, uv_s, uv_o, pv_0, pv_n, i1_0, bs_0, bs_1, im_lt, im_ge, im_eq, ni_em, t, q11, e]
      · have e := fun Q => f5 d H Q hH
        have hne : ¬ (g.2.2.2.2.2 14) c = (g.2.2.2.2.2 15) c := hloc
        have hh := hH
        rw [e_235_2]
        simp (disch := first | exact c1_i _ | exact c1_r _ | exact c1_n | exact c1_m | omega | assumption | (apply ac_l; omega) | (apply ac_r; omega) | decide | exact Or.inl rfl) only [e_235_3, e_235_4, e_235_7, e_235_7n, e_235_8, e_235_9, e_235_12, e_235_15, e_235_15n, e_235_16, e_235_19, e_235_20, e_235_21, e_235_24, e_235_25, e_235_25n, e_235_26, e_235_29, e_235_30, e_235_30n, e_235_31, e_235_34, e_235_37, e_235_38, e_235_41, e_235_42, e_235_43, e_235_43n, e_235_44, e_235_47, e_235_50, e_235_50n, e_235_51, e_235_53, e_235_54, e_235_57, e_235_60, e_235_60n, e_235_61, e_235_64, e_235_67, e_235_68, e_235_69, e_235_72, e_235_72n, e_235_73, e_235_76, e_235_77, e_235_78, e_235_81, e_235_81n, e_235_82, e_235_85, e_235_86, e_235_87, e_235_90, e_235_91, e_235_92, e_235_95, e_235_95n, e_235_96, e_235_97, e_235_100, e_235_101, e_235_102, e_236_0, e_236_0n, e_236_1, e_236_4, e_236_5, e_236_6, e_236_6n, e_236_7, e_236_10, e_236_11, e_236_12, e_236_15, e_236_16, e_236_19, e_236_20, Option.toList_some, Option.toList_none, List.cons_append, List.nil_append, catS_cons, catS_nil, cat_int, cat_long, cat_ref, cat_null, c1_i, c1_r, c1_n, c1_m, true_and, and_true, and_self, putR_1, putR_u, eq_self, Nat.reduceLT, Nat.reduceLeDiff, Nat.reduceAdd, Nat.reduceEqDiff, vk_i, vk_l, vk_r, vk_n, vk_0, vk_1, if_true, if_false, not_true_eq_false, not_false_eq_true, false_and, and_false, ne_eq, true_or, or_true, ite_not, reduceCtorEq, pr_73, pr_74, pr_75, pr_76, pr_77, pr_78, pr_79, pr_80, pr_81, pr_82, pr_83, pr_84, pr_85, pr_86, pr_87, pr_88, pr_89, pr_90, pr_91, pr_92, pr_93, pr_94, pr_95, pr_96, pr_97, pr_98, pr_99, pr_100, pr_101, pr_102, pr_103, pr_104, pr_105, pr_106, pr_107, pr_108, pr_109, pr_110, pr_111, pr_112, pr_113, pr_114, pr_115, pr_116, pr_117, pr_118, pr_119, pr_120, pr_121, pr_122, pr_123, pr_124, pr_125, pr_126, pr_127, pr_128, pr_129, pr_130, pr_131, pr_132, pr_133, pr_134, pr_135, pr_136, pr_137, pr_138, pr_139, pr_140, pr_141, pr_142, pr_143, pr_144, pr_145, rf_0, rf_1, hI_1, rf_2, hI_2, rf_3, hI_3, rf_4, hI_4, rf_5, hI_5, rf_6, hI_6, rf_7, hI_7, rf_8, rf_9, rf_10, rf_11, hI_11, rf_12, rf_13, rf_14, rf_15, rf_16, hI_16, rf_17, rf_18, rf_19, rf_20, rf_21, rf_22, rf_23, hI_23, rf_24, rf_25, rf_26, rf_27, rf_28, hI_28, rf_29, rf_30, hI_30, rf_31, rf_32, hI_32, rf_33, hI_33, rf_34, rf_35, rf_36, rf_37, rf_38, rf_39, rf_40, rf_41, hI_41, rf_42, rf_43, rf_44, rf_45, rf_46, rf_47, rf_48, rf_49, rf_50, hI_50, rf_51, rf_52, rf_53, rf_54, rf_55, rf_56, rf_57, hI_57, rf_58, rf_59, rf_60, rf_61, rf_62, rf_63, rf_64, rf_65, rf_66, rf_67, rf_68, rf_69, rf_70, rf_71, rf_72, rf_73, rf_74, rf_75, hI_75, rf_76, rf_77, rf_78, hI_78, rf_79, rf_80, rf_81, hI_81, rf_82, hI_82, rf_83, rf_84, hI_84, rf_85, rf_86, rf_87, hI_87, rf_88, hI_88, rf_89, hI_89, rf_90, hI_90, rf_91, rf_92, rf_93, rf_94, hI_94, rf_95, hI_95, rf_96, rf_97, rf_98, rf_99, rf_100, hset_W, hA_74, hL_75, hA_76, hL_77, hA_78, hL_79, hA_80, hL_81, hA_82, hL_83, hA_84, hA_85, hA_86, hL_87, hA_88, hA_89, hA_90, hA_91, hA_92, hA_93, hA_94, hA_95, hA_96, hA_97, hA_98, hA_99, hA_100, hA_101, hA_102, hA_103, hA_104, hA_105, hL_106, hA_107, hA_108, hA_109, hA_110, hA_111, hA_112, hA_113, hA_114, hA_115, hA_116, hA_117, hA_118, hA_119, hA_120, hA_121, hA_122, hA_123, hA_124, hA_125, hA_126, hA_127, hA_128, hA_129, hA_130, hA_131, hA_132, hA_133, hA_134, hA_135, hA_136, hA_137, hA_138, hA_139, hA_140, hA_141, hA_142, hA_143, hA_144, hA_145, ni_ixL, ni_clL, ni_add, ni_mul, ni_lt, ni_le, ni_eq, ni_clamp, ni_ix, ni_lt0, ni_0le, ni_ltL, ni_Llt, ni_leL, ni_Lle, ni_eqL, ni_addL, ni_Ladd, ni_mulL, ni_Lmul, ni_subL, ni_sub, ni_Lsub, le_t, le_f, lt_t, lt_f, eq_f, il_lt, il_l0, il_g0, il_l1, il_g1, il_l2, il_g2, il_l3, il_g3, il_l4, il_g4, il_l5, il_g5, il_l7, il_g7, il_l8, il_g8, il_l9, il_g9, il_l10, il_g10, il_l15, il_g15, il_l20, il_g20, il_l23, il_g23, il_l24, il_g24, il_l60, il_g60, il_l100, il_g100, il_l999, il_g999, il_l1000, il_g1000, r_in, putR_lt hh, sA_1, sA_s, i1_0, bs_0, bs_1, im_lt, im_ge, im_eq, ni_em, u1, u3, hne, e, e_235_2]
        simp (disch := first | exact c1_i _ | exact c1_r _ | exact c1_n | exact c1_m | omega | assumption | (apply ac_l; omega) | (apply ac_r; omega) | decide | exact Or.inl rfl) only [e_235_3, e_235_4, e_235_105, Option.toList_some, Option.toList_none, List.cons_append, List.nil_append, catS_cons, catS_nil, cat_int, cat_long, cat_ref, cat_null, c1_i, c1_r, c1_n, c1_m, true_and, and_true, and_self, putR_1, putR_u, eq_self, Nat.reduceLT, Nat.reduceLeDiff, Nat.reduceAdd, Nat.reduceEqDiff, vk_i, vk_l, vk_r, vk_n, vk_0, vk_1, if_true, if_false, not_true_eq_false, not_false_eq_true, false_and, and_false, ne_eq, true_or, or_true, ite_not, reduceCtorEq, e_235_2]
end
