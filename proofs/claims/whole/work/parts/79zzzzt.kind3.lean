section
variable {K : Nat → pcell} {tb : Nat} {g g' : gS} {r r' r0 rW rb : rS} {x x' : xS} {h h' : pheap} {d : Nat} {Q : Option Value → pheap → Prop} {B : Nat → Value} {R N f q i p n f0 a L A1 A2 al mo o : Nat} {fa c e b c0 u t gd m rm tl tl' : Int32} {w v w0 nm : Int64} {T : Nat → Int32} {F : Nat → Int64} {P : pB}
def kdP (P : pB) (o : Nat) : pB := (upN P.1 0 (P.1 0 + 1), upN P.2 0 (upN (P.2 0) (P.1 0) o))
def kdH (h : pheap) (R : Nat) (P : pB) (nm : Int64) (o : Nat) : pheap := hset (hset (hset h (R + 2) (P.1 0 - 1) (.long nm)) (R + 1) 0 (.int (nI (P.1 0)))) (R + 5) (P.1 0) (.int (nI o))
def kdR (r : rS) (P : pB) (nm : Int64) (o : Nat) : rS := sI (sA (sL r 75 (P.1 0) nm) 76 (P.1 0) (nI o)) 11 (nI (P.1 0 + 1))
theorem kd_o (h1 : a ≠ R + 1) (h2 : a ≠ R + 2) (h5 : a ≠ R + 5) : (kdH h R P nm o).2.2 a = h.2.2 a := by
  unfold kdH
  rw [hs_o _ _ h5, hs_o _ _ h1, hs_o _ _ h2]
theorem kd_z (hz : PZ K tb g rW x R N T A1 A2 B rb P h r f q c t w) (h9 : P.1 0 < 9) (ho : o < P.1 0) : PZ K tb g rW x R N T A1 A2 B rb (kdP P o) (kdH h R P nm o) (kdR r P nm o) f q c t w := by
  obtain ⟨hx, hc, hf, ⟨k1, k2, k3, k4, k5, k6, k7⟩, k8, hb, hr, ⟨b1, b2, b3, b4⟩⟩ := hz
  have hx2 : PX K tb g rW x R N T A1 A2 (kdH h R P nm o) := px_s (a := 5) (px_s (a := 1) (px_s (a := 2) hx (by omega) _ _) (by omega) _ _) (by omega) _ _
  obtain ⟨⟨c0, c1, c2, c3, c4⟩, ⟨d1, d2, d3⟩, e3, e4, ⟨f1, f2, f3⟩, g6, g7, g8, g9, g10, g11, g12⟩ := hb
  obtain ⟨⟨r1, r2, r3⟩, r4, r5, r6, r7, r8, r9, r10, r11⟩ := hr
  have q1 : (kdH h R P nm o).2.2 (R + 1) = ((h.2.2 (R + 1)).1, (h.2.2 (R + 1)).2.1, updV (h.2.2 (R + 1)).2.2 0 (.int (nI (P.1 0)))) := by
    unfold kdH
    rw [hs_o _ _ (by omega), hs_s, hs_o _ _ (by omega)]
  have q2 : (kdH h R P nm o).2.2 (R + 2) = ((h.2.2 (R + 2)).1, (h.2.2 (R + 2)).2.1, updV (h.2.2 (R + 2)).2.2 (P.1 0 - 1) (.long nm)) := by
    unfold kdH
    rw [hs_o _ _ (by omega), hs_o _ _ (by omega), hs_s]
  have q5 : (kdH h R P nm o).2.2 (R + 5) = ((h.2.2 (R + 5)).1, (h.2.2 (R + 5)).2.1, updV (h.2.2 (R + 5)).2.2 (P.1 0) (.int (nI o))) := by
    unfold kdH
    rw [hs_s, hs_o _ _ (by omega), hs_o _ _ (by omega)]
  have qo : ∀ j, j ≠ 1 → j ≠ 2 → j ≠ 5 → (kdH h R P nm o).2.2 (R + j) = h.2.2 (R + j) := fun j j1 j2 j5 => kd_o (by omega) (by omega) (by omega)
  have p0 : (kdP P o).1 0 = P.1 0 + 1 := rfl
  have p1 : (kdP P o).1 1 = P.1 1 := rfl
  have p2 : (kdP P o).1 2 = P.1 2 := rfl
  have s0 : (kdP P o).2 0 = upN (P.2 0) (P.1 0) o := rfl
  have s1 : (kdP P o).2 1 = P.2 1 := rfl
  have s2 : (kdP P o).2 2 = P.2 2 := rfl
  have s3 : (kdP P o).2 3 = P.2 3 := rfl
  have kN : (kdR r P nm o).2.2.2 75 = upN ((r.2.2.2 75)) (P.1 0) nm := rfl
  have kO : (kdR r P nm o).2.2.1 76 = upN ((r.2.2.1 76)) (P.1 0) (nI o) := rfl
  refine ⟨hx2, (qo 0 (by omega) (by omega) (by omega)).trans hc, hf, ⟨k1, k2, k3, k4, k5, k6, k7⟩, k8, ?_, ?_, ?_⟩
  · unfold BKc
    rw [q1, q2, qo 3 (by omega) (by omega) (by omega), qo 4 (by omega) (by omega) (by omega), q5, qo 6 (by omega) (by omega) (by omega), qo 7 (by omega) (by omega) (by omega), qo 8 (by omega) (by omega) (by omega), qo 9 (by omega) (by omega) (by omega), qo 10 (by omega) (by omega) (by omega), qo 11 (by omega) (by omega) (by omega), qo 12 (by omega) (by omega) (by omega), p0, p1, p2, s0, s1, s2, s3, kN]
    refine ⟨⟨c0, ?_, ?_, ?_, fun j hj => ?_⟩, ⟨d1, d2, fun k hk => ?_⟩, e3, e4, ⟨f1, f2, fun k hk => ?_⟩, g6, g7, g8, g9, g10, g11, g12⟩
    · dsimp only
      rw [uv_s, Nat.add_sub_cancel]
    · dsimp only
      rw [uv_o _ _ (by decide)]
      exact c2
    · dsimp only
      rw [uv_o _ _ (by decide)]
      exact c3
    · dsimp only
      rw [uv_o _ _ (by omega)]
      exact c4 j hj
    · dsimp only
      by_cases y : k = P.1 0 - 1
      · subst y
        rw [uv_s, show 1 + (P.1 0 - 1) = P.1 0 by omega, upN_s]
      · rw [uv_o _ _ y, upN_n _ _ (by omega)]
        exact d3 k (by omega)
    · dsimp only
      by_cases y : k = P.1 0
      · subst y
        rw [uv_s, upN_s]
      · rw [uv_o _ _ y, upN_n _ _ y]
        exact f3 k (by omega)
  · unfold BKr
    rw [p0, p1, p2, s0, s1, s2, s3, kO]
    refine ⟨⟨rfl, by omega, by omega⟩, r4, r5, fun k hk => ?_, r7, r8, r9, r10, r11⟩
    by_cases y : k = P.1 0
    · subst y
      rw [upN_s, upN_s]
      exact ⟨rfl, Or.inr ho⟩
    · rw [upN_n _ _ y, upN_n _ _ y]
      exact r6 k (by omega)
  · refine ⟨fun k z0 z1 z2 z3 z4 z5 z6 z7 => ?_, fun a z0 z1 z2 z3 z4 z5 z6 => ?_, fun a z0 z1 z2 z3 z4 => ?_, ?_⟩
    · show upN r.1 11 _ k = _
      rw [upN_n _ _ z5]
      exact b1 k z0 z1 z2 z3 z4 z5 z6 z7
    · show upN r.2.2.1 76 _ a = _
      rw [upN_n _ _ z0]
      exact b2 a z0 z1 z2 z3 z4 z5 z6
    · show upN r.2.2.2 75 _ a = _
      rw [upN_n _ _ z0]
      exact b3 a z0 z1 z2 z3 z4
    · rw [kO, upN_n _ _ (by omega)]
      exact b4
/-- readKind -/
theorem pz_kind (hz : PZ K tb g rW x R N T A1 A2 B rb P h r f q c t w) : ∃ h' r', ((∃ P', AT K tb g rW x R N T A1 A2 B rb P' (q + 1) h' r' ∧ (∀ d r0 Q, Go (d + 7) 17 0 [.ref R, mk0, mk0, mk0] [] (putR r0 (putX x h)) Q = Q (some (.int 1)) (putR r0 (putX x h')))) ∨ (PQ K tb g rW x R N T A1 A2 rb h' r' ∧ (∀ d r0 Q, Go (d + 7) 17 0 [.ref R, mk0, mk0, mk0] [] (putR r0 (putX x h)) Q = Q (some (.int 0)) (putR r0 (putX x h'))))) ∧ (∀ d (H : pheap) Q, 146 ≤ H.1 → Go (d + 7) 181 0 [.ref 73, mk0, mk0, mk0, mk0] [] (putR r H) Q = Q none (putR r' H)) := by
  obtain ⟨h1, r1, hA⟩ := kind_1 hz
  rcases hA with ⟨h9, ⟨f1, q1, c1, t1, w1, z1, l1⟩, nm, x1, y1⟩ | ⟨hq, x1, y1⟩
  · obtain ⟨h2, r2, hB⟩ := kind_2 (nm := nm) z1
    rcases hB with ⟨⟨f2, q2, c2, t2, w2, z2, l2⟩, o, ho, V, x2, y2⟩ | ⟨hq, x2, y2⟩
    · obtain ⟨h3, r3, hC', y3⟩ := pz_pass (e := 59) z2 (by decide)
      obtain ⟨hh2, ⟨e1, e2, e3⟩, -⟩ := pz_R z2
      rcases hC' with ⟨⟨-, f3, q3, c3, t3, w3, z3, l3, -⟩, x3⟩ | ⟨hq, x3⟩
      · refine ⟨kdH h3 R P nm o, kdR r3 P nm o, Or.inl ⟨kdP P o, ⟨f3, q3, c3, t3, w3, kd_z z3 h9 ho, by omega⟩, fun d r0 Q => ?_⟩, fun d H Q hH => ?_⟩
        · rw [x1 d r0 Q, x2 d r0 Q]
          obtain ⟨hh, ⟨a1, a2, a3⟩, a6, a7, a0⟩ := pz_R z3
          obtain ⟨⟨-, a12, -⟩, hb, hr⟩ := pz_b z3
          obtain ⟨⟨b0, b1, b2, b3, b4⟩, ⟨g1, g2, -⟩, -, -, ⟨g5, g6, -⟩, -⟩ := hb
          have kn1 : 1 ≤ P.1 0 := hr.1.2.1
          have b43 : (h3.2.2 (R + 1)).2.2 3 = .ref (R + 2) := b4 0 (by omega)
          have b46 : (h3.2.2 (R + 1)).2.2 6 = .ref (R + 5) := b4 3 (by omega)
          have st : Go (d + 7) 17 85 [.ref R, .long nm, mk0, .int (nI o)] [] (putR r0 (putX x h2)) Q = Go (d + 7) 17 96 [.ref R, .long nm, mk0, .int (nI o)] [] (putR r0 (putX x h3)) Q := by
            have hh := hh2
            have p1 := fun Q => x3 (d + 2) r0 Q
            have i1 : ¬ (1 : Int32) = 0 := by decide
            simp (disch := first | exact c1_i _ | exact c1_r _ | exact c1_n | exact c1_m | omega | assumption | (apply ac_l; omega) | (apply ac_r; omega) | decide | exact Or.inl rfl) only [e_17_85, e_17_85n, e_17_86, e_17_88, e_17_91, Option.toList_some, Option.toList_none, List.cons_append, List.nil_append, catS_cons, catS_nil, cat_int, cat_long, cat_ref, cat_null, c1_i, c1_r, c1_n, c1_m, true_and, and_true, and_self, putR_1, putR_u, eq_self, Nat.reduceLT, Nat.reduceLeDiff, Nat.reduceAdd, Nat.reduceEqDiff, vk_i, vk_l, vk_r, vk_n, vk_0, vk_1, if_true, if_false, not_true_eq_false, not_false_eq_true, false_and, and_false, ne_eq, true_or, or_true, ite_not, reduceCtorEq, putX_1, putX_u, putX_hi, hset_Xhi, px_5, xf_5_0, xf_5_1, xI_5_1, xf_5_2, xR_0, xf_5_3, xI_5_3, xf_5_4, xI_5_4, xf_5_5, xf_5_6, xI_5_6, xf_5_7, xf_5_8, xf_5_9, xf_5_10, xf_5_11, xf_5_12, xf_5_13, xf_5_14, xf_5_15, xI_5_15, px_6, xA_6, px_18, xA_18, px_19, xf_19_0, xI_19_0, xf_19_1, xR_1, xf_19_2, xI_19_2, px_20, xf_20_0, xI_20_0, xf_20_1, xR_2, xf_20_2, xI_20_2, px_21, xf_21_0, xI_21_0, xf_21_1, xR_3, xf_21_2, xI_21_2, px_22, xf_22_0, xI_22_0, xf_22_1, xR_4, xf_22_2, xI_22_2, px_23, xf_23_0, xI_23_0, xf_23_1, xR_5, xf_23_2, xI_23_2, px_24, xf_24_0, xI_24_0, xf_24_1, xR_6, xf_24_2, xI_24_2, px_25, xf_25_0, xI_25_0, xf_25_1, xI_25_1, xf_25_2, xf_25_3, xI_25_3, xf_25_4, xf_25_5, xf_25_6, px_26, xA_26, px_27, px_28, xA_28, px_29, xA_29, px_30, xA_30, px_31, xA_31, px_32, xA_32, px_33, xA_33, px_34, xA_34, px_35, xA_35, px_36, xA_36, px_37, xA_37, px_38, xA_38, px_39, xA_39, px_40, xA_40, px_41, xA_41, px_42, xA_42, px_43, xA_43, px_44, xA_44, px_45, xA_45, px_46, xA_46, px_47, xA_47, px_48, xA_48, px_49, xA_49, px_50, xA_50, px_51, xA_51, px_52, xA_52, px_53, xA_53, px_54, xA_54, px_55, xA_55, px_56, xA_56, px_57, xA_57, px_58, xA_58, px_59, xA_59, px_60, xA_60, px_61, xA_61, px_62, xA_62, px_63, xA_63, px_64, xA_64, px_65, xA_65, px_66, xA_66, px_67, xA_67, px_68, xA_68, px_69, xA_69, px_70, xf_70_0, xI_70_0, xf_70_1, xI_70_1, xf_70_2, xI_70_2, xf_70_3, xf_70_4, px_71, xA_71, px_72, xA_72, ni_ixL, ni_clL, ni_add, ni_mul, ni_lt, ni_le, ni_eq, ni_clamp, ni_ix, ni_lt0, ni_0le, ni_ltL, ni_Llt, ni_leL, ni_Lle, ni_eqL, ni_addL, ni_Ladd, ni_mulL, ni_Lmul, ni_subL, ni_sub, ni_Lsub, le_t, le_f, lt_t, lt_f, eq_f, il_lt, il_l0, il_g0, il_l1, il_g1, il_l2, il_g2, il_l3, il_g3, il_l4, il_g4, il_l5, il_g5, il_l7, il_g7, il_l8, il_g8, il_l9, il_g9, il_l10, il_g10, il_l15, il_g15, il_l20, il_g20, il_l23, il_g23, il_l24, il_g24, il_l60, il_g60, il_l100, il_g100, il_l999, il_g999, il_l1000, il_g1000, putR_lo, hset_lo, putR_lt hh, rd_hi, wr_hi, hs_1, hs_s, hs_o, uv_s, uv_o, pv_0, pv_n, i1_0, bs_0, bs_1, im_lt, im_ge, im_eq, ni_em, e3, p1, i1]
          rw [st]
          unfold kdH
          have e9 : nI (P.1 0 - 1) + 1 = nI (P.1 0) := by
            have := ni_add (P.1 0 - 1) 1
            rw [show P.1 0 - 1 + 1 = P.1 0 by omega] at this
            exact this
          simp (disch := first | exact c1_i _ | exact c1_r _ | exact c1_n | exact c1_m | omega | assumption | (apply ac_l; omega) | (apply ac_r; omega) | decide | exact Or.inl rfl) only [e_17_96, e_17_96n, e_17_97, e_17_100, e_17_103, e_17_103n, e_17_104, e_17_107, e_17_110, e_17_111, e_17_112, e_17_112n, e_17_113, e_17_116, e_17_117, e_17_120, e_17_121, e_17_122, e_17_125, e_17_125n, e_17_126, e_17_129, e_17_132, e_17_132n, e_17_133, e_17_136, e_17_139, e_17_140, e_17_141, e_17_142, Option.toList_some, Option.toList_none, List.cons_append, List.nil_append, catS_cons, catS_nil, cat_int, cat_long, cat_ref, cat_null, c1_i, c1_r, c1_n, c1_m, true_and, and_true, and_self, putR_1, putR_u, eq_self, Nat.reduceLT, Nat.reduceLeDiff, Nat.reduceAdd, Nat.reduceEqDiff, vk_i, vk_l, vk_r, vk_n, vk_0, vk_1, if_true, if_false, not_true_eq_false, not_false_eq_true, false_and, and_false, ne_eq, true_or, or_true, ite_not, reduceCtorEq, putX_1, putX_u, putX_hi, hset_Xhi, px_5, xf_5_0, xf_5_1, xI_5_1, xf_5_2, xR_0, xf_5_3, xI_5_3, xf_5_4, xI_5_4, xf_5_5, xf_5_6, xI_5_6, xf_5_7, xf_5_8, xf_5_9, xf_5_10, xf_5_11, xf_5_12, xf_5_13, xf_5_14, xf_5_15, xI_5_15, px_6, xA_6, px_18, xA_18, px_19, xf_19_0, xI_19_0, xf_19_1, xR_1, xf_19_2, xI_19_2, px_20, xf_20_0, xI_20_0, xf_20_1, xR_2, xf_20_2, xI_20_2, px_21, xf_21_0, xI_21_0, xf_21_1, xR_3, xf_21_2, xI_21_2, px_22, xf_22_0, xI_22_0, xf_22_1, xR_4, xf_22_2, xI_22_2, px_23, xf_23_0, xI_23_0, xf_23_1, xR_5, xf_23_2, xI_23_2, px_24, xf_24_0, xI_24_0, xf_24_1, xR_6, xf_24_2, xI_24_2, px_25, xf_25_0, xI_25_0, xf_25_1, xI_25_1, xf_25_2, xf_25_3, xI_25_3, xf_25_4, xf_25_5, xf_25_6, px_26, xA_26, px_27, px_28, xA_28, px_29, xA_29, px_30, xA_30, px_31, xA_31, px_32, xA_32, px_33, xA_33, px_34, xA_34, px_35, xA_35, px_36, xA_36, px_37, xA_37, px_38, xA_38, px_39, xA_39, px_40, xA_40, px_41, xA_41, px_42, xA_42, px_43, xA_43, px_44, xA_44, px_45, xA_45, px_46, xA_46, px_47, xA_47, px_48, xA_48, px_49, xA_49, px_50, xA_50, px_51, xA_51, px_52, xA_52, px_53, xA_53, px_54, xA_54, px_55, xA_55, px_56, xA_56, px_57, xA_57, px_58, xA_58, px_59, xA_59, px_60, xA_60, px_61, xA_61, px_62, xA_62, px_63, xA_63, px_64, xA_64, px_65, xA_65, px_66, xA_66, px_67, xA_67, px_68, xA_68, px_69, xA_69, px_70, xf_70_0, xI_70_0, xf_70_1, xI_70_1, xf_70_2, xI_70_2, xf_70_3, xf_70_4, px_71, xA_71, px_72, xA_72, ni_ixL, ni_clL, ni_add, ni_mul, ni_lt, ni_le, ni_eq, ni_clamp, ni_ix, ni_lt0, ni_0le, ni_ltL, ni_Llt, ni_leL, ni_Lle, ni_eqL, ni_addL, ni_Ladd, ni_mulL, ni_Lmul, ni_subL, ni_sub, ni_Lsub, le_t, le_f, lt_t, lt_f, eq_f, il_lt, il_l0, il_g0, il_l1, il_g1, il_l2, il_g2, il_l3, il_g3, il_l4, il_g4, il_l5, il_g5, il_l7, il_g7, il_l8, il_g8, il_l9, il_g9, il_l10, il_g10, il_l15, il_g15, il_l20, il_g20, il_l23, il_g23, il_l24, il_g24, il_l60, il_g60, il_l100, il_g100, il_l999, il_g999, il_l1000, il_g1000, putR_lo, hset_lo, putR_lt hh, rd_hi, wr_hi, hs_1, hs_s, hs_o, uv_s, uv_o, pv_0, pv_n, i1_0, bs_0, bs_1, im_lt, im_ge, im_eq, ni_em, a3, a0, b0, b1, b43, b46, g1, g2, g5, g6, e9]
        · rw [y1 d H Q hH, y2 d H Q hH]
          have hh := hH
          have p1 := fun Q => y3 (d + 2) H Q hH
          have hr := (pz_b z3).2.2
          have k1 : (r3.1 11) = nI (P.1 0) := hr.1.1
          have t2' := (pz_t z3).2.1
          have k2 : (sL r3 75 (P.1 0) nm).1 11 = nI (P.1 0) := k1
          have k3 : (sA (sL r3 75 (P.1 0) nm) 76 (P.1 0) (nI o)).1 11 = nI (P.1 0) := k1
          unfold kdR
          simp (disch := first | exact c1_i _ | exact c1_r _ | exact c1_n | exact c1_m | omega | assumption | (apply ac_l; omega) | (apply ac_r; omega) | decide | exact Or.inl rfl) only [e_181_116, e_181_116n, e_181_117, e_181_119, e_181_122, e_181_122n, e_181_123, e_181_126, e_181_129, e_181_129n, e_181_130, e_181_133, e_181_133n, e_181_134, e_181_137, e_181_138, e_181_139, e_181_139n, e_181_140, e_181_143, e_181_143n, e_181_144, e_181_147, e_181_148, e_181_149, e_181_149n, e_181_150, e_181_151, e_181_154, e_181_155, e_181_156, e_181_159, Option.toList_some, Option.toList_none, List.cons_append, List.nil_append, catS_cons, catS_nil, cat_int, cat_long, cat_ref, cat_null, c1_i, c1_r, c1_n, c1_m, true_and, and_true, and_self, putR_1, putR_u, eq_self, Nat.reduceLT, Nat.reduceLeDiff, Nat.reduceAdd, Nat.reduceEqDiff, vk_i, vk_l, vk_r, vk_n, vk_0, vk_1, if_true, if_false, not_true_eq_false, not_false_eq_true, false_and, and_false, ne_eq, true_or, or_true, ite_not, reduceCtorEq, pr_73, pr_74, pr_75, pr_76, pr_77, pr_78, pr_79, pr_80, pr_81, pr_82, pr_83, pr_84, pr_85, pr_86, pr_87, pr_88, pr_89, pr_90, pr_91, pr_92, pr_93, pr_94, pr_95, pr_96, pr_97, pr_98, pr_99, pr_100, pr_101, pr_102, pr_103, pr_104, pr_105, pr_106, pr_107, pr_108, pr_109, pr_110, pr_111, pr_112, pr_113, pr_114, pr_115, pr_116, pr_117, pr_118, pr_119, pr_120, pr_121, pr_122, pr_123, pr_124, pr_125, pr_126, pr_127, pr_128, pr_129, pr_130, pr_131, pr_132, pr_133, pr_134, pr_135, pr_136, pr_137, pr_138, pr_139, pr_140, pr_141, pr_142, pr_143, pr_144, pr_145, rf_0, rf_1, hI_1, rf_2, hI_2, rf_3, hI_3, rf_4, hI_4, rf_5, hI_5, rf_6, hI_6, rf_7, hI_7, rf_8, rf_9, rf_10, rf_11, hI_11, rf_12, rf_13, rf_14, rf_15, rf_16, hI_16, rf_17, rf_18, rf_19, rf_20, rf_21, rf_22, rf_23, hI_23, rf_24, rf_25, rf_26, rf_27, rf_28, hI_28, rf_29, rf_30, hI_30, rf_31, rf_32, hI_32, rf_33, hI_33, rf_34, rf_35, rf_36, rf_37, rf_38, rf_39, rf_40, rf_41, hI_41, rf_42, rf_43, rf_44, rf_45, rf_46, rf_47, rf_48, rf_49, rf_50, hI_50, rf_51, rf_52, rf_53, rf_54, rf_55, rf_56, rf_57, hI_57, rf_58, rf_59, rf_60, rf_61, rf_62, rf_63, rf_64, rf_65, rf_66, rf_67, rf_68, rf_69, rf_70, rf_71, rf_72, rf_73, rf_74, rf_75, hI_75, rf_76, rf_77, rf_78, hI_78, rf_79, rf_80, rf_81, hI_81, rf_82, hI_82, rf_83, rf_84, hI_84, rf_85, rf_86, rf_87, hI_87, rf_88, hI_88, rf_89, hI_89, rf_90, hI_90, rf_91, rf_92, rf_93, rf_94, hI_94, rf_95, hI_95, rf_96, rf_97, rf_98, rf_99, rf_100, hset_W, hA_74, hL_75, hA_76, hL_77, hA_78, hL_79, hA_80, hL_81, hA_82, hL_83, hA_84, hA_85, hA_86, hL_87, hA_88, hA_89, hA_90, hA_91, hA_92, hA_93, hA_94, hA_95, hA_96, hA_97, hA_98, hA_99, hA_100, hA_101, hA_102, hA_103, hA_104, hA_105, hL_106, hA_107, hA_108, hA_109, hA_110, hA_111, hA_112, hA_113, hA_114, hA_115, hA_116, hA_117, hA_118, hA_119, hA_120, hA_121, hA_122, hA_123, hA_124, hA_125, hA_126, hA_127, hA_128, hA_129, hA_130, hA_131, hA_132, hA_133, hA_134, hA_135, hA_136, hA_137, hA_138, hA_139, hA_140, hA_141, hA_142, hA_143, hA_144, hA_145, ni_ixL, ni_clL, ni_add, ni_mul, ni_lt, ni_le, ni_eq, ni_clamp, ni_ix, ni_lt0, ni_0le, ni_ltL, ni_Llt, ni_leL, ni_Lle, ni_eqL, ni_addL, ni_Ladd, ni_mulL, ni_Lmul, ni_subL, ni_sub, ni_Lsub, le_t, le_f, lt_t, lt_f, eq_f, il_lt, il_l0, il_g0, il_l1, il_g1, il_l2, il_g2, il_l3, il_g3, il_l4, il_g4, il_l5, il_g5, il_l7, il_g7, il_l8, il_g8, il_l9, il_g9, il_l10, il_g10, il_l15, il_g15, il_l20, il_g20, il_l23, il_g23, il_l24, il_g24, il_l60, il_g60, il_l100, il_g100, il_l999, il_g999, il_l1000, il_g1000, r_in, putR_lt hh, sA_1, sA_s, i1_0, bs_0, bs_1, im_lt, im_ge, im_eq, ni_em, p1, t2', k1, k2, k3]
      · refine ⟨h3, r3, Or.inr ⟨hq, fun d r0 Q => ?_⟩, fun d H Q hH => ?_⟩
        · rw [x1 d r0 Q, x2 d r0 Q]
          have hh := hh2
          have p1 := fun Q => x3 (d + 2) r0 Q
          simp (disch := first | exact c1_i _ | exact c1_r _ | exact c1_n | exact c1_m | omega | assumption | (apply ac_l; omega) | (apply ac_r; omega) | decide | exact Or.inl rfl) only [e_17_85, e_17_85n, e_17_86, e_17_88, e_17_91, e_17_94, e_17_95, Option.toList_some, Option.toList_none, List.cons_append, List.nil_append, catS_cons, catS_nil, cat_int, cat_long, cat_ref, cat_null, c1_i, c1_r, c1_n, c1_m, true_and, and_true, and_self, putR_1, putR_u, eq_self, Nat.reduceLT, Nat.reduceLeDiff, Nat.reduceAdd, Nat.reduceEqDiff, vk_i, vk_l, vk_r, vk_n, vk_0, vk_1, if_true, if_false, not_true_eq_false, not_false_eq_true, false_and, and_false, ne_eq, true_or, or_true, ite_not, reduceCtorEq, putX_1, putX_u, putX_hi, hset_Xhi, px_5, xf_5_0, xf_5_1, xI_5_1, xf_5_2, xR_0, xf_5_3, xI_5_3, xf_5_4, xI_5_4, xf_5_5, xf_5_6, xI_5_6, xf_5_7, xf_5_8, xf_5_9, xf_5_10, xf_5_11, xf_5_12, xf_5_13, xf_5_14, xf_5_15, xI_5_15, px_6, xA_6, px_18, xA_18, px_19, xf_19_0, xI_19_0, xf_19_1, xR_1, xf_19_2, xI_19_2, px_20, xf_20_0, xI_20_0, xf_20_1, xR_2, xf_20_2, xI_20_2, px_21, xf_21_0, xI_21_0, xf_21_1, xR_3, xf_21_2, xI_21_2, px_22, xf_22_0, xI_22_0, xf_22_1, xR_4, xf_22_2, xI_22_2, px_23, xf_23_0, xI_23_0, xf_23_1, xR_5, xf_23_2, xI_23_2, px_24, xf_24_0, xI_24_0, xf_24_1, xR_6, xf_24_2, xI_24_2, px_25, xf_25_0, xI_25_0, xf_25_1, xI_25_1, xf_25_2, xf_25_3, xI_25_3, xf_25_4, xf_25_5, xf_25_6, px_26, xA_26, px_27, px_28, xA_28, px_29, xA_29, px_30, xA_30, px_31, xA_31, px_32, xA_32, px_33, xA_33, px_34, xA_34, px_35, xA_35, px_36, xA_36, px_37, xA_37, px_38, xA_38, px_39, xA_39, px_40, xA_40, px_41, xA_41, px_42, xA_42, px_43, xA_43, px_44, xA_44, px_45, xA_45, px_46, xA_46, px_47, xA_47, px_48, xA_48, px_49, xA_49, px_50, xA_50, px_51, xA_51, px_52, xA_52, px_53, xA_53, px_54, xA_54, px_55, xA_55, px_56, xA_56, px_57, xA_57, px_58, xA_58, px_59, xA_59, px_60, xA_60, px_61, xA_61, px_62, xA_62, px_63, xA_63, px_64, xA_64, px_65, xA_65, px_66, xA_66, px_67, xA_67, px_68, xA_68, px_69, xA_69, px_70, xf_70_0, xI_70_0, xf_70_1, xI_70_1, xf_70_2, xI_70_2, xf_70_3, xf_70_4, px_71, xA_71, px_72, xA_72, ni_ixL, ni_clL, ni_add, ni_mul, ni_lt, ni_le, ni_eq, ni_clamp, ni_ix, ni_lt0, ni_0le, ni_ltL, ni_Llt, ni_leL, ni_Lle, ni_eqL, ni_addL, ni_Ladd, ni_mulL, ni_Lmul, ni_subL, ni_sub, ni_Lsub, le_t, le_f, lt_t, lt_f, eq_f, il_lt, il_l0, il_g0, il_l1, il_g1, il_l2, il_g2, il_l3, il_g3, il_l4, il_g4, il_l5, il_g5, il_l7, il_g7, il_l8, il_g8, il_l9, il_g9, il_l10, il_g10, il_l15, il_g15, il_l20, il_g20, il_l23, il_g23, il_l24, il_g24, il_l60, il_g60, il_l100, il_g100, il_l999, il_g999, il_l1000, il_g1000, putR_lo, hset_lo, putR_lt hh, rd_hi, wr_hi, hs_1, hs_s, hs_o, uv_s, uv_o, pv_0, pv_n, i1_0, bs_0, bs_1, im_lt, im_ge, im_eq, ni_em, e3, p1]
        · rw [y1 d H Q hH, y2 d H Q hH]
          have hh := hH
          have p1 := fun Q => y3 (d + 2) H Q hH
          obtain ⟨-, -, ⟨ff, n, n1, n5, -, -, hf, -⟩, -⟩ := hq
          have zz : ¬ r3.1 4 = 0 := fun y => by
            rw [hf] at y
            have y' : nI n = nI 0 := y
            rw [ni_eq (by omega) (by omega)] at y'
            omega
          simp (disch := first | exact c1_i _ | exact c1_r _ | exact c1_n | exact c1_m | omega | assumption | (apply ac_l; omega) | (apply ac_r; omega) | decide | exact Or.inl rfl) only [e_181_116, e_181_116n, e_181_117, e_181_119, e_181_122, e_181_122n, e_181_123, e_181_126, e_181_159, Option.toList_some, Option.toList_none, List.cons_append, List.nil_append, catS_cons, catS_nil, cat_int, cat_long, cat_ref, cat_null, c1_i, c1_r, c1_n, c1_m, true_and, and_true, and_self, putR_1, putR_u, eq_self, Nat.reduceLT, Nat.reduceLeDiff, Nat.reduceAdd, Nat.reduceEqDiff, vk_i, vk_l, vk_r, vk_n, vk_0, vk_1, if_true, if_false, not_true_eq_false, not_false_eq_true, false_and, and_false, ne_eq, true_or, or_true, ite_not, reduceCtorEq, pr_73, pr_74, pr_75, pr_76, pr_77, pr_78, pr_79, pr_80, pr_81, pr_82, pr_83, pr_84, pr_85, pr_86, pr_87, pr_88, pr_89, pr_90, pr_91, pr_92, pr_93, pr_94, pr_95, pr_96, pr_97, pr_98, pr_99, pr_100, pr_101, pr_102, pr_103, pr_104, pr_105, pr_106, pr_107, pr_108, pr_109, pr_110, pr_111, pr_112, pr_113, pr_114, pr_115, pr_116, pr_117, pr_118, pr_119, pr_120, pr_121, pr_122, pr_123, pr_124, pr_125, pr_126, pr_127, pr_128, pr_129, pr_130, pr_131, pr_132, pr_133, pr_134, pr_135, pr_136, pr_137, pr_138, pr_139, pr_140, pr_141, pr_142, pr_143, pr_144, pr_145, rf_0, rf_1, hI_1, rf_2, hI_2, rf_3, hI_3, rf_4, hI_4, rf_5, hI_5, rf_6, hI_6, rf_7, hI_7, rf_8, rf_9, rf_10, rf_11, hI_11, rf_12, rf_13, rf_14, rf_15, rf_16, hI_16, rf_17, rf_18, rf_19, rf_20, rf_21, rf_22, rf_23, hI_23, rf_24, rf_25, rf_26, rf_27, rf_28, hI_28, rf_29, rf_30, hI_30, rf_31, rf_32, hI_32, rf_33, hI_33, rf_34, rf_35, rf_36, rf_37, rf_38, rf_39, rf_40, rf_41, hI_41, rf_42, rf_43, rf_44, rf_45, rf_46, rf_47, rf_48, rf_49, rf_50, hI_50, rf_51, rf_52, rf_53, rf_54, rf_55, rf_56, rf_57, hI_57, rf_58, rf_59, rf_60, rf_61, rf_62, rf_63, rf_64, rf_65, rf_66, rf_67, rf_68, rf_69, rf_70, rf_71, rf_72, rf_73, rf_74, rf_75, hI_75, rf_76, rf_77, rf_78, hI_78, rf_79, rf_80, rf_81, hI_81, rf_82, hI_82, rf_83, rf_84, hI_84, rf_85, rf_86, rf_87, hI_87, rf_88, hI_88, rf_89, hI_89, rf_90, hI_90, rf_91, rf_92, rf_93, rf_94, hI_94, rf_95, hI_95, rf_96, rf_97, rf_98, rf_99, rf_100, hset_W, hA_74, hL_75, hA_76, hL_77, hA_78, hL_79, hA_80, hL_81, hA_82, hL_83, hA_84, hA_85, hA_86, hL_87, hA_88, hA_89, hA_90, hA_91, hA_92, hA_93, hA_94, hA_95, hA_96, hA_97, hA_98, hA_99, hA_100, hA_101, hA_102, hA_103, hA_104, hA_105, hL_106, hA_107, hA_108, hA_109, hA_110, hA_111, hA_112, hA_113, hA_114, hA_115, hA_116, hA_117, hA_118, hA_119, hA_120, hA_121, hA_122, hA_123, hA_124, hA_125, hA_126, hA_127, hA_128, hA_129, hA_130, hA_131, hA_132, hA_133, hA_134, hA_135, hA_136, hA_137, hA_138, hA_139, hA_140, hA_141, hA_142, hA_143, hA_144, hA_145, ni_ixL, ni_clL, ni_add, ni_mul, ni_lt, ni_le, ni_eq, ni_clamp, ni_ix, ni_lt0, ni_0le, ni_ltL, ni_Llt, ni_leL, ni_Lle, ni_eqL, ni_addL, ni_Ladd, ni_mulL, ni_Lmul, ni_subL, ni_sub, ni_Lsub, le_t, le_f, lt_t, lt_f, eq_f, il_lt, il_l0, il_g0, il_l1, il_g1, il_l2, il_g2, il_l3, il_g3, il_l4, il_g4, il_l5, il_g5, il_l7, il_g7, il_l8, il_g8, il_l9, il_g9, il_l10, il_g10, il_l15, il_g15, il_l20, il_g20, il_l23, il_g23, il_l24, il_g24, il_l60, il_g60, il_l100, il_g100, il_l999, il_g999, il_l1000, il_g1000, r_in, putR_lt hh, sA_1, sA_s, i1_0, bs_0, bs_1, im_lt, im_ge, im_eq, ni_em, p1, zz]
    · exact ⟨h2, r2, Or.inr ⟨hq, fun d r0 Q => by rw [x1 d r0 Q]; exact x2 d r0 Q⟩, fun d H Q hH => by rw [y1 d H Q hH]; exact y2 d H Q hH⟩
  · exact ⟨h1, r1, Or.inr ⟨hq, x1⟩, y1⟩
end
