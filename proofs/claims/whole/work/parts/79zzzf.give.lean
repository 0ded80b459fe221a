/-! what comes is given -/
section
variable {K : Nat → pcell} {tb : Nat} {g g' g0 g1 g2 : gS} {r r' r0 v v' : rS} {x x' x0 x1 : xS} {h h' h0 h1 : pheap} {d : Nat} {Q : Option Value → pheap → Prop} {a n k m rc b L n0 p q j t c c2 c3 no A ce ce0 T Dn N i ar sa D o : Nat} {F fs sr w : Nat → Int32} {l l' : List Nat} {s z : Int32} {os fc as : Nat → Nat} {S S' : Nat → Prop}
/-- a Value with its sort -/
def SV (g : gS) (n : Nat) (a : Nat) (s : Int32) : Prop := okP g.2.2.2.1 n a (1, 0) ∧ (g.2.1 a).1 = s ∧ isSrt (g.2.2.2.2.1 2) (g.2.2.2.2.1 3) s ∧ (s ≠ 4 → VV (g.1 0 1) (g.1 0 4) ((g.2.2.2.2.2 11)) ((g.2.2.2.2.2 13)) (g.2.1 a).2.1 s)
def GV (v : rS) (Dn : Nat) (S : Nat → Prop) (w : Nat → Int32) : Prop := (∀ o, S o → o < 24 ∧ w (24 * Dn + o) = gvF v Dn o) ∧ ∀ i, (∀ o, S o → i ≠ 24 * Dn + o) → w i = v.2.2.1 95 i
theorem gv_i (hg : GV v Dn S w) (e : ∀ o, S' o ↔ S o) : GV v Dn S' w := ⟨fun o ho => hg.1 o ((e o).mp ho), fun i hi => hg.2 i (fun o ho => hi o ((e o).mpr ho))⟩
theorem gv_own (hg : GV v Dn S w) (ho : o < 24) (hd : v.2.2.1 100 o = nI Dn) : GV v Dn (fun o' => S o' ∨ o' = o) w := by
  refine ⟨fun o' ho' => ?_, fun i hi => hg.2 i (fun o' y => hi o' (Or.inl y))⟩
  rcases ho' with y | rfl
  · exact hg.1 o' y
  · by_cases y : S o'
    · exact hg.1 o' y
    · refine ⟨ho, ?_⟩
      unfold gvF
      rw [if_pos hd]
      exact hg.2 _ (fun o'' z1 z2 => y (by rw [show o' = o'' by omega]; exact z1))
theorem gv_oth (hg : GV v Dn S w) (ho : o < 24) (hd : v.2.2.1 100 o = nI m) (hm : m < 8) (hD : Dn < 8) (hne : m ≠ Dn) : GV v Dn (fun o' => S o' ∨ o' = o) (upN w (24 * Dn + o) (v.2.2.1 93 m)) := by
  have e0 : gvF v Dn o = v.2.2.1 93 m := by
    unfold gvF
    rw [hd, if_neg (fun y => hne ((ni_eq (by omega) (by omega)).mp y)), ni_clamp (by omega)]
  refine ⟨fun o' ho' => ?_, fun i hi => ?_⟩
  · by_cases y : o' = o
    · subst y
      rw [upN_s]
      exact ⟨ho, e0.symm⟩
    · have y' : S o' := ho'.resolve_right y
      rw [upN_n _ _ (by omega)]
      exact hg.1 o' y'
  · rw [upN_n _ _ (hi o (Or.inr rfl))]
    exact hg.2 i (fun o' y => hi o' (Or.inl y))
theorem occ_ne (h1 : ¬ 20 ≤ (g.2.1 a).1 ∨ (g.2.1 a).2.1 = -1) (hno : (g.1 0 4) ≤ 24) : ¬ occ g a o := fun ⟨y1, y2, y3⟩ => by
  rcases h1 with z | z
  · exact z y2
  · rw [z] at y3
    have y := congrArg Int64.toInt32 y3
    rw [il_32] at y
    have e : (-1 : Int64).toInt32 = -1 := by decide
    rw [e] at y
    have y' := congrArg Int32.toInt y
    rw [ni_int (by omega)] at y'
    have e2 : (-1 : Int32).toInt = -1 := by decide
    omega
theorem gva_step (hw : World K tb g (sR v 95 w) x h) (hD : Dn < (g.1 0 3)) (hg : GV v Dn S w) (hs : SV g h.1 a s) (har : 146 ≤ ar ∧ ar < h.1) (h25 : (h.2.2 ar).1 = 25 ∧ (h.2.2 ar).2.1 = n) (hn : n ≤ 6) (hi : i < n) (hv : (h.2.2 ar).2.2 i = .ref a) : ∃ w' h', World K tb g (sR v 95 w') x h' ∧ GV v Dn (fun o => S o ∨ occ g a o) w' ∧ (h'.1 = h.1 ∧ h'.2.1 = h.2.1 ∧ ∀ c, c ≠ (g.1 4) Dn + 1 → h'.2.2 c = h.2.2 c) ∧ ∀ d r0 Q Z6 Z7, ∃ Z7', Go (d + 6) 149 9 [.ref 5, .ref ((g.1 4) Dn), .ref ar, .ref ar, .int (nI n), .int (nI i), Z6, Z7] [] (putR r0 (putX x h)) Q = Go (d + 6) 149 9 [.ref 5, .ref ((g.1 4) Dn), .ref ar, .ref ar, .int (nI n), .int (nI (i + 1)), .ref a, Z7'] [] (putR r0 (putX x h')) Q := by
  have hh := sim_146 hw.1
  obtain ⟨a1, a2⟩ := har
  obtain ⟨b1, b2⟩ := h25
  obtain ⟨⟨p1, p2, p3⟩, s1, s2, s3⟩ := hs
  obtain ⟨t9, q0, q1, q2⟩ := s_val hw.1 p3 p1 p2
  rw [s1] at q0
  obtain ⟨nd1, nd2, nd3⟩ := w_nd hw
  obtain ⟨no1, no2, no3⟩ := w_no hw
  have hrn := (w_rn hw).2
  have hsn := (w_sn hw).2
  by_cases h20 : (20 : Int32) ≤ s
  · have hlt : ¬ s < 20 := Int32.not_lt.mpr h20
    obtain ⟨k, hk, hsk⟩ : ∃ k, k < (g.2.2.2.2.1 3) ∧ s = nI (20 + k) := by
      rcases s2 with ⟨k, hk, rfl⟩ | ⟨k, hk, rfl⟩ | y
      · have y' : nI 20 ≤ nI k := h20
        rw [ni_le (by omega) (by omega)] at y'
        omega
      · have y' : nI 20 ≤ nI (10 + k) := h20
        rw [ni_le (by omega) (by omega)] at y'
        omega
      · exact y
    have h4 : s ≠ 4 := fun y => by
      have y' : nI (20 + k) = nI 4 := hsk.symm.trans y
      rw [ni_eq (by omega) (by omega)] at y'
      omega
    rcases (s3 h4).2.2.2 k (by omega) hsk with hm1 | ⟨o, ho, hos, hno⟩
    · rw [hm1] at q1
      have e1 := fun d r0 Q => x_thing_L (d := d) (r0 := r0) (Q := Q) hw (v := -1) (Or.inl (by decide))
      refine ⟨w, h, hw, gv_i hg (fun o => ⟨fun y => y.resolve_right (occ_ne (Or.inr hm1) no2), Or.inl⟩), ⟨rfl, rfl, fun _ _ => rfl⟩, fun d r0 Q Z6 Z7 => ⟨.null, ?_⟩⟩
      rw [e_149_9]
      simp (disch := first | exact c1_i _ | exact c1_r _ | exact c1_n | exact c1_m | omega | assumption | (apply ac_l; omega) | (apply ac_r; omega) | decide | exact Or.inl rfl) only [e_149_11, e_149_13, e_149_16, e_149_16n, e_149_17, e_149_19, e_149_20, e_149_20n, e_149_22, e_149_22n, e_149_24, e_149_27, e_149_29, e_149_32, e_149_32n, e_149_33, e_149_33n, e_149_35, e_149_38, e_149_41, e_149_44, e_149_45, e_149_45n, e_149_47, e_149_47n, e_149_49n, e_149_49, e_149_52, e_149_52n, e_149_54, e_149_57, e_149_57n, e_149_58, e_149_58nr, e_149_58rn, e_149_58nn, e_149_61, e_149_61n, e_149_62, e_149_62n, e_149_64, e_149_67, e_149_70, Option.toList_some, Option.toList_none, List.cons_append, List.nil_append, catS_cons, catS_nil, cat_int, cat_long, cat_ref, cat_null, c1_i, c1_r, c1_n, c1_m, true_and, and_true, and_self, putR_1, putR_u, eq_self, Nat.reduceLT, Nat.reduceLeDiff, Nat.reduceAdd, Nat.reduceEqDiff, vk_i, vk_l, vk_r, vk_n, vk_0, vk_1, if_true, if_false, not_true_eq_false, not_false_eq_true, false_and, and_false, ne_eq, true_or, or_true, ite_not, reduceCtorEq, putX_1, putX_u, putX_hi, hset_Xhi, px_5, xf_5_0, xf_5_1, xI_5_1, xf_5_2, xR_0, xf_5_3, xI_5_3, xf_5_4, xI_5_4, xf_5_5, xf_5_6, xI_5_6, xf_5_7, xf_5_8, xf_5_9, xf_5_10, xf_5_11, xf_5_12, xf_5_13, xf_5_14, xf_5_15, xI_5_15, px_6, xA_6, px_18, xA_18, px_19, xf_19_0, xI_19_0, xf_19_1, xR_1, xf_19_2, xI_19_2, px_20, xf_20_0, xI_20_0, xf_20_1, xR_2, xf_20_2, xI_20_2, px_21, xf_21_0, xI_21_0, xf_21_1, xR_3, xf_21_2, xI_21_2, px_22, xf_22_0, xI_22_0, xf_22_1, xR_4, xf_22_2, xI_22_2, px_23, xf_23_0, xI_23_0, xf_23_1, xR_5, xf_23_2, xI_23_2, px_24, xf_24_0, xI_24_0, xf_24_1, xR_6, xf_24_2, xI_24_2, px_25, xf_25_0, xI_25_0, xf_25_1, xI_25_1, xf_25_2, xf_25_3, xI_25_3, xf_25_4, xf_25_5, xf_25_6, px_26, xA_26, px_27, px_28, xA_28, px_29, xA_29, px_30, xA_30, px_31, xA_31, px_32, xA_32, px_33, xA_33, px_34, xA_34, px_35, xA_35, px_36, xA_36, px_37, xA_37, px_38, xA_38, px_39, xA_39, px_40, xA_40, px_41, xA_41, px_42, xA_42, px_43, xA_43, px_44, xA_44, px_45, xA_45, px_46, xA_46, px_47, xA_47, px_48, xA_48, px_49, xA_49, px_50, xA_50, px_51, xA_51, px_52, xA_52, px_53, xA_53, px_54, xA_54, px_55, xA_55, px_56, xA_56, px_57, xA_57, px_58, xA_58, px_59, xA_59, px_60, xA_60, px_61, xA_61, px_62, xA_62, px_63, xA_63, px_64, xA_64, px_65, xA_65, px_66, xA_66, px_67, xA_67, px_68, xA_68, px_69, xA_69, px_70, xf_70_0, xI_70_0, xf_70_1, xI_70_1, xf_70_2, xI_70_2, xf_70_3, xf_70_4, px_71, xA_71, px_72, xA_72, ni_ixL, ni_clL, ni_add, ni_mul, ni_lt, ni_le, ni_eq, ni_clamp, ni_ix, ni_lt0, ni_0le, ni_ltL, ni_Llt, ni_leL, ni_Lle, ni_eqL, ni_addL, ni_Ladd, ni_mulL, ni_Lmul, ni_subL, ni_sub, ni_Lsub, le_t, le_f, lt_t, lt_f, eq_f, il_lt, il_l0, il_g0, il_l1, il_g1, il_l2, il_g2, il_l3, il_g3, il_l4, il_g4, il_l5, il_g5, il_l7, il_g7, il_l8, il_g8, il_l9, il_g9, il_l10, il_g10, il_l15, il_g15, il_l20, il_g20, il_l23, il_g23, il_l24, il_g24, il_l60, il_g60, il_l100, il_g100, il_l999, il_g999, il_l1000, il_g1000, putR_lo, hset_lo, putR_lt hh, rd_hi, wr_hi, hs_1, hs_s, hs_o, uv_s, uv_o, pv_0, pv_n, i1_0, bs_0, bs_1, im_lt, im_ge, im_eq, ni_em, b1, b2, hv, t9, q0, q1, hlt, e1]
    · rw [hno] at q1
      have e1 := fun d r0 Q => x_thing_i (d := d) (r0 := r0) (Q := Q) hw ho
      obtain ⟨f1, f2, -⟩ := w_obj hw o ho
      have f1' : v.2.2.1 100 o = nI ((g.2.2.2.2.2 12) o) := f1
      obtain ⟨c1, c2, c3, c4, c5, -⟩ := s_thg hw.1 ho
      have hoc : ∀ o', occ g a o' ↔ o' = o := fun o' => ⟨fun ⟨y1, y2, y3⟩ => by
        rw [hno, il_eq, ni_eq (by omega) (by omega)] at y3
        exact y3.symm, fun y => by subst y; exact ⟨ho, by rw [s1]; exact h20, hno⟩⟩
      have hS : ∀ o', (S o' ∨ occ g a o') ↔ (S o' ∨ o' = o) := fun o' => or_congr Iff.rfl (hoc o')
      by_cases hod : (g.2.2.2.2.2 12) o = Dn
      · refine ⟨w, h, hw, gv_i (gv_own hg (by omega) (by rw [f1', hod])) hS, ⟨rfl, rfl, fun _ _ => rfl⟩, fun d r0 Q Z6 Z7 => ⟨.ref ((g.1 5) o), ?_⟩⟩
        rw [hod] at c5
        obtain ⟨k1, k2, -⟩ := s_dsk hw.1 hD
        rw [e_149_9]
        simp (disch := first | exact c1_i _ | exact c1_r _ | exact c1_n | exact c1_m | omega | assumption | (apply ac_l; omega) | (apply ac_r; omega) | decide | exact Or.inl rfl) only [e_149_11, e_149_13, e_149_16, e_149_16n, e_149_17, e_149_19, e_149_20, e_149_20n, e_149_22, e_149_22n, e_149_24, e_149_27, e_149_29, e_149_32, e_149_32n, e_149_33, e_149_33n, e_149_35, e_149_38, e_149_41, e_149_44, e_149_45, e_149_45n, e_149_47, e_149_47n, e_149_49n, e_149_49, e_149_52, e_149_52n, e_149_54, e_149_57, e_149_57n, e_149_58, e_149_58nr, e_149_58rn, e_149_58nn, e_149_61, e_149_61n, e_149_62, e_149_62n, e_149_64, e_149_67, e_149_70, Option.toList_some, Option.toList_none, List.cons_append, List.nil_append, catS_cons, catS_nil, cat_int, cat_long, cat_ref, cat_null, c1_i, c1_r, c1_n, c1_m, true_and, and_true, and_self, putR_1, putR_u, eq_self, Nat.reduceLT, Nat.reduceLeDiff, Nat.reduceAdd, Nat.reduceEqDiff, vk_i, vk_l, vk_r, vk_n, vk_0, vk_1, if_true, if_false, not_true_eq_false, not_false_eq_true, false_and, and_false, ne_eq, true_or, or_true, ite_not, reduceCtorEq, putX_1, putX_u, putX_hi, hset_Xhi, px_5, xf_5_0, xf_5_1, xI_5_1, xf_5_2, xR_0, xf_5_3, xI_5_3, xf_5_4, xI_5_4, xf_5_5, xf_5_6, xI_5_6, xf_5_7, xf_5_8, xf_5_9, xf_5_10, xf_5_11, xf_5_12, xf_5_13, xf_5_14, xf_5_15, xI_5_15, px_6, xA_6, px_18, xA_18, px_19, xf_19_0, xI_19_0, xf_19_1, xR_1, xf_19_2, xI_19_2, px_20, xf_20_0, xI_20_0, xf_20_1, xR_2, xf_20_2, xI_20_2, px_21, xf_21_0, xI_21_0, xf_21_1, xR_3, xf_21_2, xI_21_2, px_22, xf_22_0, xI_22_0, xf_22_1, xR_4, xf_22_2, xI_22_2, px_23, xf_23_0, xI_23_0, xf_23_1, xR_5, xf_23_2, xI_23_2, px_24, xf_24_0, xI_24_0, xf_24_1, xR_6, xf_24_2, xI_24_2, px_25, xf_25_0, xI_25_0, xf_25_1, xI_25_1, xf_25_2, xf_25_3, xI_25_3, xf_25_4, xf_25_5, xf_25_6, px_26, xA_26, px_27, px_28, xA_28, px_29, xA_29, px_30, xA_30, px_31, xA_31, px_32, xA_32, px_33, xA_33, px_34, xA_34, px_35, xA_35, px_36, xA_36, px_37, xA_37, px_38, xA_38, px_39, xA_39, px_40, xA_40, px_41, xA_41, px_42, xA_42, px_43, xA_43, px_44, xA_44, px_45, xA_45, px_46, xA_46, px_47, xA_47, px_48, xA_48, px_49, xA_49, px_50, xA_50, px_51, xA_51, px_52, xA_52, px_53, xA_53, px_54, xA_54, px_55, xA_55, px_56, xA_56, px_57, xA_57, px_58, xA_58, px_59, xA_59, px_60, xA_60, px_61, xA_61, px_62, xA_62, px_63, xA_63, px_64, xA_64, px_65, xA_65, px_66, xA_66, px_67, xA_67, px_68, xA_68, px_69, xA_69, px_70, xf_70_0, xI_70_0, xf_70_1, xI_70_1, xf_70_2, xI_70_2, xf_70_3, xf_70_4, px_71, xA_71, px_72, xA_72, ni_ixL, ni_clL, ni_add, ni_mul, ni_lt, ni_le, ni_eq, ni_clamp, ni_ix, ni_lt0, ni_0le, ni_ltL, ni_Llt, ni_leL, ni_Lle, ni_eqL, ni_addL, ni_Ladd, ni_mulL, ni_Lmul, ni_subL, ni_sub, ni_Lsub, le_t, le_f, lt_t, lt_f, eq_f, il_lt, il_l0, il_g0, il_l1, il_g1, il_l2, il_g2, il_l3, il_g3, il_l4, il_g4, il_l5, il_g5, il_l7, il_g7, il_l8, il_g8, il_l9, il_g9, il_l10, il_g10, il_l15, il_g15, il_l20, il_g20, il_l23, il_g23, il_l24, il_g24, il_l60, il_g60, il_l100, il_g100, il_l999, il_g999, il_l1000, il_g1000, putR_lo, hset_lo, putR_lt hh, rd_hi, wr_hi, hs_1, hs_s, hs_o, uv_s, uv_o, pv_0, pv_n, i1_0, bs_0, bs_1, im_lt, im_ge, im_eq, ni_em, b1, b2, hv, t9, q0, q1, hlt, e1, c3, c5]
      · obtain ⟨u, u1, u2⟩ := (w_dsk hw ((g.2.2.2.2.2 12) o) (by omega)).2.1
        have hwh := w_held hw (i := Dn) (o := o) (v := v.2.2.1 93 ((g.2.2.2.2.2 12) o)) hD (by omega) (Or.inr ⟨u, u, Nat.le_refl _, u1, u2, u2⟩) (fun y => by omega)
        rw [sA_R] at hwh
        obtain ⟨k1, k2, k3, k4, k5, k6, k7, k8, k9, k10, k11⟩ := s_dsk hw.1 hD
        obtain ⟨m1, m2, m3, m4, m5, -⟩ := s_dsk hw.1 f2
        obtain ⟨n1, n2, n3, n4, -⟩ := s_hel hw.1 hD
        have hde : ((g.1 4) ((g.2.2.2.2.2 12) o) = (g.1 4) Dn) = False := by rw [d_eq hw.1 f2 hD]; exact eq_false hod
        have m5' : (h.2.2 ((g.1 4) ((g.2.2.2.2.2 12) o))).2.2 1 = .int (v.2.2.1 93 ((g.2.2.2.2.2 12) o)) := m5
        refine ⟨_, _, hwh, gv_i (gv_oth hg (by omega) f1' (by omega) (by omega) hod) hS, ⟨rfl, rfl, fun c hc => hs_o _ _ hc⟩, fun d r0 Q Z6 Z7 => ⟨.ref ((g.1 5) o), ?_⟩⟩
        rw [e_149_9]
        simp (disch := first | exact c1_i _ | exact c1_r _ | exact c1_n | exact c1_m | omega | assumption | (apply ac_l; omega) | (apply ac_r; omega) | decide | exact Or.inl rfl) only [e_149_11, e_149_13, e_149_16, e_149_16n, e_149_17, e_149_19, e_149_20, e_149_20n, e_149_22, e_149_22n, e_149_24, e_149_27, e_149_29, e_149_32, e_149_32n, e_149_33, e_149_33n, e_149_35, e_149_38, e_149_41, e_149_44, e_149_45, e_149_45n, e_149_47, e_149_47n, e_149_49n, e_149_49, e_149_52, e_149_52n, e_149_54, e_149_57, e_149_57n, e_149_58, e_149_58nr, e_149_58rn, e_149_58nn, e_149_61, e_149_61n, e_149_62, e_149_62n, e_149_64, e_149_67, e_149_70, e_80_0, e_80_0n, e_80_1, e_80_4, e_80_4n, e_80_5, e_80_8, e_80_8n, e_80_9, e_80_12, e_80_15, e_80_16, Option.toList_some, Option.toList_none, List.cons_append, List.nil_append, catS_cons, catS_nil, cat_int, cat_long, cat_ref, cat_null, c1_i, c1_r, c1_n, c1_m, true_and, and_true, and_self, putR_1, putR_u, eq_self, Nat.reduceLT, Nat.reduceLeDiff, Nat.reduceAdd, Nat.reduceEqDiff, vk_i, vk_l, vk_r, vk_n, vk_0, vk_1, if_true, if_false, not_true_eq_false, not_false_eq_true, false_and, and_false, ne_eq, true_or, or_true, ite_not, reduceCtorEq, putX_1, putX_u, putX_hi, hset_Xhi, px_5, xf_5_0, xf_5_1, xI_5_1, xf_5_2, xR_0, xf_5_3, xI_5_3, xf_5_4, xI_5_4, xf_5_5, xf_5_6, xI_5_6, xf_5_7, xf_5_8, xf_5_9, xf_5_10, xf_5_11, xf_5_12, xf_5_13, xf_5_14, xf_5_15, xI_5_15, px_6, xA_6, px_18, xA_18, px_19, xf_19_0, xI_19_0, xf_19_1, xR_1, xf_19_2, xI_19_2, px_20, xf_20_0, xI_20_0, xf_20_1, xR_2, xf_20_2, xI_20_2, px_21, xf_21_0, xI_21_0, xf_21_1, xR_3, xf_21_2, xI_21_2, px_22, xf_22_0, xI_22_0, xf_22_1, xR_4, xf_22_2, xI_22_2, px_23, xf_23_0, xI_23_0, xf_23_1, xR_5, xf_23_2, xI_23_2, px_24, xf_24_0, xI_24_0, xf_24_1, xR_6, xf_24_2, xI_24_2, px_25, xf_25_0, xI_25_0, xf_25_1, xI_25_1, xf_25_2, xf_25_3, xI_25_3, xf_25_4, xf_25_5, xf_25_6, px_26, xA_26, px_27, px_28, xA_28, px_29, xA_29, px_30, xA_30, px_31, xA_31, px_32, xA_32, px_33, xA_33, px_34, xA_34, px_35, xA_35, px_36, xA_36, px_37, xA_37, px_38, xA_38, px_39, xA_39, px_40, xA_40, px_41, xA_41, px_42, xA_42, px_43, xA_43, px_44, xA_44, px_45, xA_45, px_46, xA_46, px_47, xA_47, px_48, xA_48, px_49, xA_49, px_50, xA_50, px_51, xA_51, px_52, xA_52, px_53, xA_53, px_54, xA_54, px_55, xA_55, px_56, xA_56, px_57, xA_57, px_58, xA_58, px_59, xA_59, px_60, xA_60, px_61, xA_61, px_62, xA_62, px_63, xA_63, px_64, xA_64, px_65, xA_65, px_66, xA_66, px_67, xA_67, px_68, xA_68, px_69, xA_69, px_70, xf_70_0, xI_70_0, xf_70_1, xI_70_1, xf_70_2, xI_70_2, xf_70_3, xf_70_4, px_71, xA_71, px_72, xA_72, ni_ixL, ni_clL, ni_add, ni_mul, ni_lt, ni_le, ni_eq, ni_clamp, ni_ix, ni_lt0, ni_0le, ni_ltL, ni_Llt, ni_leL, ni_Lle, ni_eqL, ni_addL, ni_Ladd, ni_mulL, ni_Lmul, ni_subL, ni_sub, ni_Lsub, le_t, le_f, lt_t, lt_f, eq_f, il_lt, il_l0, il_g0, il_l1, il_g1, il_l2, il_g2, il_l3, il_g3, il_l4, il_g4, il_l5, il_g5, il_l7, il_g7, il_l8, il_g8, il_l9, il_g9, il_l10, il_g10, il_l15, il_g15, il_l20, il_g20, il_l23, il_g23, il_l24, il_g24, il_l60, il_g60, il_l100, il_g100, il_l999, il_g999, il_l1000, il_g1000, putR_lo, hset_lo, putR_lt hh, rd_hi, wr_hi, hs_1, hs_s, hs_o, uv_s, uv_o, pv_0, pv_n, i1_0, bs_0, bs_1, im_lt, im_ge, im_eq, ni_em, b1, b2, hv, t9, q0, q1, hlt, e1, c3, c4, c5, hde, k3, k9, n3, n4, m3, m5']
  · have hlt : s < 20 := Int32.not_le.mp h20
    refine ⟨w, h, hw, gv_i hg (fun o => ⟨fun y => y.resolve_right (occ_ne (Or.inl (by rw [s1]; exact h20)) no2), Or.inl⟩), ⟨rfl, rfl, fun _ _ => rfl⟩, fun d r0 Q Z6 Z7 => ⟨.null, ?_⟩⟩
    rw [e_149_9]
    simp (disch := first | exact c1_i _ | exact c1_r _ | exact c1_n | exact c1_m | omega | assumption | (apply ac_l; omega) | (apply ac_r; omega) | decide | exact Or.inl rfl) only [e_149_11, e_149_13, e_149_16, e_149_16n, e_149_17, e_149_19, e_149_20, e_149_20n, e_149_22, e_149_22n, e_149_24, e_149_27, e_149_29, e_149_32, e_149_32n, e_149_33, e_149_33n, e_149_35, e_149_38, e_149_41, e_149_44, e_149_45, e_149_45n, e_149_47, e_149_47n, e_149_49n, e_149_49, e_149_52, e_149_52n, e_149_54, e_149_57, e_149_57n, e_149_58, e_149_58nr, e_149_58rn, e_149_58nn, e_149_61, e_149_61n, e_149_62, e_149_62n, e_149_64, e_149_67, e_149_70, Option.toList_some, Option.toList_none, List.cons_append, List.nil_append, catS_cons, catS_nil, cat_int, cat_long, cat_ref, cat_null, c1_i, c1_r, c1_n, c1_m, true_and, and_true, and_self, putR_1, putR_u, eq_self, Nat.reduceLT, Nat.reduceLeDiff, Nat.reduceAdd, Nat.reduceEqDiff, vk_i, vk_l, vk_r, vk_n, vk_0, vk_1, if_true, if_false, not_true_eq_false, not_false_eq_true, false_and, and_false, ne_eq, true_or, or_true, ite_not, reduceCtorEq, putX_1, putX_u, putX_hi, hset_Xhi, px_5, xf_5_0, xf_5_1, xI_5_1, xf_5_2, xR_0, xf_5_3, xI_5_3, xf_5_4, xI_5_4, xf_5_5, xf_5_6, xI_5_6, xf_5_7, xf_5_8, xf_5_9, xf_5_10, xf_5_11, xf_5_12, xf_5_13, xf_5_14, xf_5_15, xI_5_15, px_6, xA_6, px_18, xA_18, px_19, xf_19_0, xI_19_0, xf_19_1, xR_1, xf_19_2, xI_19_2, px_20, xf_20_0, xI_20_0, xf_20_1, xR_2, xf_20_2, xI_20_2, px_21, xf_21_0, xI_21_0, xf_21_1, xR_3, xf_21_2, xI_21_2, px_22, xf_22_0, xI_22_0, xf_22_1, xR_4, xf_22_2, xI_22_2, px_23, xf_23_0, xI_23_0, xf_23_1, xR_5, xf_23_2, xI_23_2, px_24, xf_24_0, xI_24_0, xf_24_1, xR_6, xf_24_2, xI_24_2, px_25, xf_25_0, xI_25_0, xf_25_1, xI_25_1, xf_25_2, xf_25_3, xI_25_3, xf_25_4, xf_25_5, xf_25_6, px_26, xA_26, px_27, px_28, xA_28, px_29, xA_29, px_30, xA_30, px_31, xA_31, px_32, xA_32, px_33, xA_33, px_34, xA_34, px_35, xA_35, px_36, xA_36, px_37, xA_37, px_38, xA_38, px_39, xA_39, px_40, xA_40, px_41, xA_41, px_42, xA_42, px_43, xA_43, px_44, xA_44, px_45, xA_45, px_46, xA_46, px_47, xA_47, px_48, xA_48, px_49, xA_49, px_50, xA_50, px_51, xA_51, px_52, xA_52, px_53, xA_53, px_54, xA_54, px_55, xA_55, px_56, xA_56, px_57, xA_57, px_58, xA_58, px_59, xA_59, px_60, xA_60, px_61, xA_61, px_62, xA_62, px_63, xA_63, px_64, xA_64, px_65, xA_65, px_66, xA_66, px_67, xA_67, px_68, xA_68, px_69, xA_69, px_70, xf_70_0, xI_70_0, xf_70_1, xI_70_1, xf_70_2, xI_70_2, xf_70_3, xf_70_4, px_71, xA_71, px_72, xA_72, ni_ixL, ni_clL, ni_add, ni_mul, ni_lt, ni_le, ni_eq, ni_clamp, ni_ix, ni_lt0, ni_0le, ni_ltL, ni_Llt, ni_leL, ni_Lle, ni_eqL, ni_addL, ni_Ladd, ni_mulL, ni_Lmul, ni_subL, ni_sub, ni_Lsub, le_t, le_f, lt_t, lt_f, eq_f, il_lt, il_l0, il_g0, il_l1, il_g1, il_l2, il_g2, il_l3, il_g3, il_l4, il_g4, il_l5, il_g5, il_l7, il_g7, il_l8, il_g8, il_l9, il_g9, il_l10, il_g10, il_l15, il_g15, il_l20, il_g20, il_l23, il_g23, il_l24, il_g24, il_l60, il_g60, il_l100, il_g100, il_l999, il_g999, il_l1000, il_g1000, putR_lo, hset_lo, putR_lt hh, rd_hi, wr_hi, hs_1, hs_s, hs_o, uv_s, uv_o, pv_0, pv_n, i1_0, bs_0, bs_1, im_lt, im_ge, im_eq, ni_em, b1, b2, hv, t9, q0, q1, hlt]
end
