section
variable {K : Nat → pcell} {tb : Nat} {g g' : gS} {r r' r0 : rS} {x x' : xS} {h h' : pheap} {a n k m i j c p q d A M f N : Nat} {Q : Option Value → pheap → Prop} {T : Nat → Nat} {R : Nat → Nat → Int32} {F : Nat → Int32}
theorem hI_sz : (hI h A F).1 = h.1 := rfl
theorem hI_o (hb : a ≠ A) : (hI h A F).2.2 a = h.2.2 a := hC_o _ hb
theorem hI_s : (hI h A F).2.2 A = ((h.2.2 A).1, (h.2.2 A).2.1, fun k => .int (F k)) := hC_s _
theorem x_copy0 {D : Nat} {H : pheap} {y1 y2 : Value} {v : Int32} : Go D 106 0 [.null, y1, y2, .int v, mk0, mk0] [] H Q = Q (some (.int v)) H := by
  simp (disch := first | exact c1_i _ | exact c1_r _ | exact c1_n | exact c1_m | omega | assumption | (apply ac_l; omega) | (apply ac_r; omega) | decide | exact Or.inl rfl) only [e_106_0, e_106_0n, e_106_1n, e_106_1, e_106_12, e_106_13, Option.toList_some, Option.toList_none, List.cons_append, List.nil_append, catS_cons, catS_nil, cat_int, cat_long, cat_ref, cat_null, c1_i, c1_r, c1_n, c1_m, true_and, and_true, and_self, putR_1, putR_u, eq_self, Nat.reduceLT, Nat.reduceLeDiff, Nat.reduceAdd, Nat.reduceEqDiff, vk_i, vk_l, vk_r, vk_n, vk_0, vk_1, if_true, if_false, not_true_eq_false, not_false_eq_true, false_and, and_false, ne_eq, true_or, or_true, ite_not, reduceCtorEq]
/-- what holds of the heap and of the array that is written -/
def CpH (g : gS) (h : pheap) (A M : Nat) : Prop := 146 ≤ A ∧ A < h.1 ∧ (h.2.2 A).1 = 20 ∧ (h.2.2 A).2.1 = 5 * M ∧ M ≤ 12
theorem l_copyF (hs : Sim K g r x h) (hH : CpH g h A M) (hi : i < (g.1 0 3)) (hf : Fst g) {D : Nat} (hff : f < (g.1 0 2)) {L : Nat → List Nat} (hL : ∀ k, k < (g.2.2.2.2.2 26) f → (L ((g.2.2.2.2.2 25) (2 * f + k))).length = T ((g.2.2.2.2.2 25) (2 * f + k))) (s : Nat) (hM : s + sB g T f ((g.2.2.2.2.2 26) f) ≤ M)
    (ih : ∀ k, k < (g.2.2.2.2.2 26) f → ∀ p F Q, p + T ((g.2.2.2.2.2 25) (2 * f + k)) ≤ M → Go D 106 0 [.ref ((g.1 3) ((g.2.2.2.2.2 25) (2 * f + k))), .ref ((g.1 4) i), .ref A, .int (nI (5 * p)), mk0, mk0] [] (putR r0 (putX x (hI h A F))) Q = Q (some (.int (nI (5 * (p + T ((g.2.2.2.2.2 25) (2 * f + k))))))) (putR r0 (putX x (hI h A (WL (rwF g r i) F p (L ((g.2.2.2.2.2 25) (2 * f + k)))))))) : ∀ m k F0, k + m = (g.2.2.2.2.2 26) f → (fbG g L f k).length = sB g T f k → s + sB g T f k ≤ M → (∀ j, j ≤ (g.2.2.2.2.2 26) f → sB g T f j ≤ sB g T f ((g.2.2.2.2.2 26) f)) → Go (D + 1) 106 82 [.ref ((g.1 3) f), .ref ((g.1 4) i), .ref A, .int (nI p), .int (nI (5 * (s + sB g T f k))), .int (nI k)] [] (putR r0 (putX x (hI h A (WL (rwF g r i) F0 s (fbG g L f k))))) Q = Q (some (.int (nI (5 * (s + sB g T f ((g.2.2.2.2.2 26) f)))))) (putR r0 (putX x (hI h A (WL (rwF g r i) F0 s (fbG g L f ((g.2.2.2.2.2 26) f))))))
  | 0, k, F0, hk, hlen, hs', hmo => by
    have hh := sim_146 hs
    obtain ⟨a1, a2, t, q0, q1, q2, q3, q4⟩ := s_fai hs hff
    obtain ⟨f1, f2, f3⟩ := hf f hff
    obtain ⟨A1, A2, A3, A4, A5⟩ := hH
    have nA : (g.1 3) f ≠ A := fun z => by rw [z, A3] at t; exact absurd t (by decide)
    have : k = (g.2.2.2.2.2 26) f := by omega
    subst this
    have w1 : (g.1 3) f < (hI h A (WL (rwF g r i) F0 s (fbG g L f ((g.2.2.2.2.2 26) f)))).1 := a2
    simp (disch := first | exact c1_i _ | exact c1_r _ | exact c1_n | exact c1_m | omega | assumption | (apply ac_l; omega) | (apply ac_r; omega) | decide | exact Or.inl rfl) only [e_106_82, e_106_84, e_106_84n, e_106_85, e_106_88, e_106_113, e_106_115, Option.toList_some, Option.toList_none, List.cons_append, List.nil_append, catS_cons, catS_nil, cat_int, cat_long, cat_ref, cat_null, c1_i, c1_r, c1_n, c1_m, true_and, and_true, and_self, putR_1, putR_u, eq_self, Nat.reduceLT, Nat.reduceLeDiff, Nat.reduceAdd, Nat.reduceEqDiff, vk_i, vk_l, vk_r, vk_n, vk_0, vk_1, if_true, if_false, not_true_eq_false, not_false_eq_true, false_and, and_false, ne_eq, true_or, or_true, ite_not, reduceCtorEq, putX_1, putX_u, putX_hi, hset_Xhi, px_5, xf_5_0, xf_5_1, xI_5_1, xf_5_2, xR_0, xf_5_3, xI_5_3, xf_5_4, xI_5_4, xf_5_5, xf_5_6, xI_5_6, xf_5_7, xf_5_8, xf_5_9, xf_5_10, xf_5_11, xf_5_12, xf_5_13, xf_5_14, xf_5_15, xI_5_15, px_6, xA_6, px_18, xA_18, px_19, xf_19_0, xI_19_0, xf_19_1, xR_1, xf_19_2, xI_19_2, px_20, xf_20_0, xI_20_0, xf_20_1, xR_2, xf_20_2, xI_20_2, px_21, xf_21_0, xI_21_0, xf_21_1, xR_3, xf_21_2, xI_21_2, px_22, xf_22_0, xI_22_0, xf_22_1, xR_4, xf_22_2, xI_22_2, px_23, xf_23_0, xI_23_0, xf_23_1, xR_5, xf_23_2, xI_23_2, px_24, xf_24_0, xI_24_0, xf_24_1, xR_6, xf_24_2, xI_24_2, px_25, xf_25_0, xI_25_0, xf_25_1, xI_25_1, xf_25_2, xf_25_3, xI_25_3, xf_25_4, xf_25_5, xf_25_6, px_26, xA_26, px_27, px_28, xA_28, px_29, xA_29, px_30, xA_30, px_31, xA_31, px_32, xA_32, px_33, xA_33, px_34, xA_34, px_35, xA_35, px_36, xA_36, px_37, xA_37, px_38, xA_38, px_39, xA_39, px_40, xA_40, px_41, xA_41, px_42, xA_42, px_43, xA_43, px_44, xA_44, px_45, xA_45, px_46, xA_46, px_47, xA_47, px_48, xA_48, px_49, xA_49, px_50, xA_50, px_51, xA_51, px_52, xA_52, px_53, xA_53, px_54, xA_54, px_55, xA_55, px_56, xA_56, px_57, xA_57, px_58, xA_58, px_59, xA_59, px_60, xA_60, px_61, xA_61, px_62, xA_62, px_63, xA_63, px_64, xA_64, px_65, xA_65, px_66, xA_66, px_67, xA_67, px_68, xA_68, px_69, xA_69, px_70, xf_70_0, xI_70_0, xf_70_1, xI_70_1, xf_70_2, xI_70_2, xf_70_3, xf_70_4, px_71, xA_71, px_72, xA_72, ni_ixL, ni_clL, ni_add, ni_mul, ni_lt, ni_le, ni_eq, ni_clamp, ni_ix, ni_lt0, ni_0le, ni_ltL, ni_Llt, ni_leL, ni_Lle, ni_eqL, ni_addL, ni_Ladd, ni_mulL, ni_Lmul, ni_subL, ni_sub, ni_Lsub, le_t, le_f, lt_t, lt_f, eq_f, il_lt, il_l0, il_g0, il_l1, il_g1, il_l2, il_g2, il_l3, il_g3, il_l4, il_g4, il_l5, il_g5, il_l7, il_g7, il_l8, il_g8, il_l9, il_g9, il_l10, il_g10, il_l15, il_g15, il_l20, il_g20, il_l23, il_g23, il_l24, il_g24, il_l60, il_g60, il_l100, il_g100, il_l999, il_g999, il_l1000, il_g1000, putR_lo, hset_lo, putR_lt hh, rd_hi, wr_hi, hs_1, hs_s, hs_o, uv_s, uv_o, pv_0, pv_n, i1_0, bs_0, bs_1, im_lt, im_ge, im_eq, ni_em, t, q4, hI_o, w1]
  | m + 1, k, F0, hk, hlen, hs', hmo => by
    have hh := sim_146 hs
    obtain ⟨a1, a2, t, q0, q1, q2, q3, q4⟩ := s_fai hs hff
    obtain ⟨f1, f2, f3⟩ := hf f hff
    obtain ⟨b1, b2, b3, b4, b5⟩ := s_fbs hs hff
    have hH' := hH
    obtain ⟨A1, A2, A3, A4, A5⟩ := hH
    have nA : (g.1 3) f ≠ A := fun z => by rw [z, A3] at t; exact absurd t (by decide)
    have nB : (g.1 3) f + 1 ≠ A := fun z => by rw [z, A3] at b3; exact absurd b3 (by decide)
    have b6 : _ = Value.ref ((g.1 3) ((g.2.2.2.2.2 25) (2 * f + k))) := b5 k (by omega)
    have hsk : sB g T f (k + 1) = sB g T f k + T ((g.2.2.2.2.2 25) (2 * f + k)) := rfl
    have hle := hmo (k + 1) (by omega)
    have hih := fun Q => ih k (by omega) (s + sB g T f k) (WL (rwF g r i) F0 s (fbG g L f k)) Q (by omega)
    have hwl : WL (rwF g r i) (WL (rwF g r i) F0 s (fbG g L f k)) (s + sB g T f k) (L ((g.2.2.2.2.2 25) (2 * f + k))) = WL (rwF g r i) F0 s (fbG g L f (k + 1)) := by
      show _ = WL (rwF g r i) F0 s (fbG g L f k ++ L ((g.2.2.2.2.2 25) (2 * f + k)))
      rw [WL_a, hlen]
    have hlen1 : (fbG g L f (k + 1)).length = sB g T f (k + 1) := by
      show (fbG g L f k ++ L ((g.2.2.2.2.2 25) (2 * f + k))).length = _
      rw [List.length_append, hlen, hL k (by omega), hsk]
    rw [hwl] at hih
    have hrec := l_copyF hs hH' hi hf hff hL s hM ih m (k + 1) F0 (by omega) hlen1 (by omega) hmo
    have e1 : s + sB g T f k + T ((g.2.2.2.2.2 25) (2 * f + k)) = s + sB g T f (k + 1) := by omega
    rw [e1] at hih
    rw [← hrec, e_106_82]
    have w1 : (g.1 3) f < (hI h A (WL (rwF g r i) F0 s (fbG g L f k))).1 := a2
    have w2 : (g.1 3) f + 1 < (hI h A (WL (rwF g r i) F0 s (fbG g L f k))).1 := b2
    simp (disch := first | exact c1_i _ | exact c1_r _ | exact c1_n | exact c1_m | omega | assumption | (apply ac_l; omega) | (apply ac_r; omega) | decide | exact Or.inl rfl) only [e_106_84, e_106_84n, e_106_85, e_106_88, e_106_91, e_106_91n, e_106_92, e_106_95, e_106_97, e_106_98, e_106_98n, e_106_99, e_106_99n, e_106_100, e_106_102, e_106_105, e_106_107, e_106_110, Option.toList_some, Option.toList_none, List.cons_append, List.nil_append, catS_cons, catS_nil, cat_int, cat_long, cat_ref, cat_null, c1_i, c1_r, c1_n, c1_m, true_and, and_true, and_self, putR_1, putR_u, eq_self, Nat.reduceLT, Nat.reduceLeDiff, Nat.reduceAdd, Nat.reduceEqDiff, vk_i, vk_l, vk_r, vk_n, vk_0, vk_1, if_true, if_false, not_true_eq_false, not_false_eq_true, false_and, and_false, ne_eq, true_or, or_true, ite_not, reduceCtorEq, putX_1, putX_u, putX_hi, hset_Xhi, px_5, xf_5_0, xf_5_1, xI_5_1, xf_5_2, xR_0, xf_5_3, xI_5_3, xf_5_4, xI_5_4, xf_5_5, xf_5_6, xI_5_6, xf_5_7, xf_5_8, xf_5_9, xf_5_10, xf_5_11, xf_5_12, xf_5_13, xf_5_14, xf_5_15, xI_5_15, px_6, xA_6, px_18, xA_18, px_19, xf_19_0, xI_19_0, xf_19_1, xR_1, xf_19_2, xI_19_2, px_20, xf_20_0, xI_20_0, xf_20_1, xR_2, xf_20_2, xI_20_2, px_21, xf_21_0, xI_21_0, xf_21_1, xR_3, xf_21_2, xI_21_2, px_22, xf_22_0, xI_22_0, xf_22_1, xR_4, xf_22_2, xI_22_2, px_23, xf_23_0, xI_23_0, xf_23_1, xR_5, xf_23_2, xI_23_2, px_24, xf_24_0, xI_24_0, xf_24_1, xR_6, xf_24_2, xI_24_2, px_25, xf_25_0, xI_25_0, xf_25_1, xI_25_1, xf_25_2, xf_25_3, xI_25_3, xf_25_4, xf_25_5, xf_25_6, px_26, xA_26, px_27, px_28, xA_28, px_29, xA_29, px_30, xA_30, px_31, xA_31, px_32, xA_32, px_33, xA_33, px_34, xA_34, px_35, xA_35, px_36, xA_36, px_37, xA_37, px_38, xA_38, px_39, xA_39, px_40, xA_40, px_41, xA_41, px_42, xA_42, px_43, xA_43, px_44, xA_44, px_45, xA_45, px_46, xA_46, px_47, xA_47, px_48, xA_48, px_49, xA_49, px_50, xA_50, px_51, xA_51, px_52, xA_52, px_53, xA_53, px_54, xA_54, px_55, xA_55, px_56, xA_56, px_57, xA_57, px_58, xA_58, px_59, xA_59, px_60, xA_60, px_61, xA_61, px_62, xA_62, px_63, xA_63, px_64, xA_64, px_65, xA_65, px_66, xA_66, px_67, xA_67, px_68, xA_68, px_69, xA_69, px_70, xf_70_0, xI_70_0, xf_70_1, xI_70_1, xf_70_2, xI_70_2, xf_70_3, xf_70_4, px_71, xA_71, px_72, xA_72, ni_ixL, ni_clL, ni_add, ni_mul, ni_lt, ni_le, ni_eq, ni_clamp, ni_ix, ni_lt0, ni_0le, ni_ltL, ni_Llt, ni_leL, ni_Lle, ni_eqL, ni_addL, ni_Ladd, ni_mulL, ni_Lmul, ni_subL, ni_sub, ni_Lsub, le_t, le_f, lt_t, lt_f, eq_f, il_lt, il_l0, il_g0, il_l1, il_g1, il_l2, il_g2, il_l3, il_g3, il_l4, il_g4, il_l5, il_g5, il_l7, il_g7, il_l8, il_g8, il_l9, il_g9, il_l10, il_g10, il_l15, il_g15, il_l20, il_g20, il_l23, il_g23, il_l24, il_g24, il_l60, il_g60, il_l100, il_g100, il_l999, il_g999, il_l1000, il_g1000, putR_lo, hset_lo, putR_lt hh, rd_hi, wr_hi, hs_1, hs_s, hs_o, uv_s, uv_o, pv_0, pv_n, i1_0, bs_0, bs_1, im_lt, im_ge, im_eq, ni_em, t, q3, q4, b3, b4, b6, hI_o, w1, w2, hih]
theorem sB_mo {f : Nat} : ∀ b j, j ≤ b → sB g T f j ≤ sB g T f b
  | 0, j, hj => by
    have : j = 0 := by omega
    subst this
    exact Nat.le_refl _
  | b + 1, j, hj => by
    by_cases e : j = b + 1
    · subst e; exact Nat.le_refl _
    · have := sB_mo (f := f) b j (by omega)
      have e2 : sB g T f (b + 1) = sB g T f b + T ((g.2.2.2.2.2 25) (2 * f + b)) := rfl
      omega
theorem x_copyF (hs : Sim K g r x h) (hH : CpH g h A M) (hi : i < (g.1 0 3)) (hf : Fst g) (hT : Tsz g T) : ∀ N f, f < N → f < (g.1 0 2) → ∀ D p F Q, N ≤ D → p + T f ≤ M → Go D 106 0 [.ref ((g.1 3) f), .ref ((g.1 4) i), .ref A, .int (nI (5 * p)), mk0, mk0] [] (putR r0 (putX x (hI h A F))) Q = Q (some (.int (nI (5 * (p + T f))))) (putR r0 (putX x (hI h A (WL (rwF g r i) F p (fl g N f)))))
  | 0, f, hfN, _, _, _, _, _, _, _ => absurd hfN (Nat.not_lt_zero f)
  | N + 1, f, hfN, hff, 0, p, F, Q, hD, _ => absurd hD (Nat.not_succ_le_zero N)
  | N + 1, f, hfN, hff, D + 1, p, F, Q, hD, hp => by
    have hh := sim_146 hs
    obtain ⟨a1, a2, t, q0, q1, q2, q3, q4⟩ := s_fai hs hff
    obtain ⟨k1, k2, kt, k3, -⟩ := s_dsk hs hi
    obtain ⟨f1, f2, f3⟩ := hf f hff
    have hH' := hH
    obtain ⟨A1, A2, A3, A4, A5⟩ := hH
    have nA : (g.1 3) f ≠ A := fun z => by rw [z, A3] at t; exact absurd t (by decide)
    have nD : (g.1 4) i ≠ A := fun z => by rw [z, A3] at kt; exact absurd kt (by decide)
    have ih := fun f' (h1 : f' < f) p F Q (h2 : p + T f' ≤ M) => x_copyF hs hH' hi hf hT N f' (by omega) (by omega) D p F Q (by omega) h2
    have hTf := hT f hff
    have hrow : wrF F (rwF g r i f) (5 * p) 5 = upN (upN (upN (upN (upN F (5 * p) ((r.2.2.1 108) f)) (5 * p + 1) ((r.2.2.1 109) f)) (5 * p + 2) (nI i)) (5 * p + 3) (if (g.2.2.2.2.2 24) f = 0 then 0 else 1)) (5 * p + 4) (nI ((g.2.2.2.2.2 26) f)) := (rw_5 (F := F) (G := rwF g r i f)).symm
    have hlens : ∀ k, k < (g.2.2.2.2.2 26) f → (fl g N ((g.2.2.2.2.2 25) (2 * f + k))).length = T ((g.2.2.2.2.2 25) (2 * f + k)) := fun k hk => by have := f3 k hk; exact fl_len hf hT N _ (by omega) (by omega)
    have hl := fun s F0 Q hM => l_copyF (r0 := r0) (p := 5 * p) (Q := Q) (D := D) (T := T) (L := fl g N) hs hH' hi hf hff hlens s hM (fun k hk p F Q h2 => ih _ (f3 k hk) p F Q h2) ((g.2.2.2.2.2 26) f) 0 F0 (by omega) rfl (by show s + 0 ≤ M; omega) (fun j hj => sB_mo _ _ hj)
    have hM1 : 5 ≤ 5 * M := by omega
    have e5 : nI (5 * M) - 5 = nI (5 * M - 5) := by
      have := ni_sub (a := 5 * M) (b := 5) hM1
      exact this
    have hpM : 5 * p ≤ 5 * M - 5 := by omega
    have wA : ∀ G, A < (hI h A G).1 := fun G => A2
    have wF : ∀ G, (g.1 3) f < (hI h A G).1 := fun G => a2
    have wD : ∀ G, (g.1 4) i < (hI h A G).1 := fun G => k2
    have p5 : 5 * p + 5 = 5 * (p + 1) := by omega
    by_cases hz : (g.2.2.2.2.2 24) f = 0
    · rw [if_pos hz] at q2 hTf hrow
      rw [pv_0] at q2
      have hfl : fl g (N + 1) f = f :: fbG g (fl g N) f ((g.2.2.2.2.2 26) f) := by
        show f :: ((if (g.2.2.2.2.2 24) f = 0 then [] else _) ++ _) = _
        rw [if_pos hz]
        rfl
      have hlast := hl (p + 1) (wrF F (rwF g r i f) (5 * p) 5) Q (by omega)
      have hwl : WL (rwF g r i) F p (fl g (N + 1) f) = WL (rwF g r i) (wrF F (rwF g r i f) (5 * p) 5) (p + 1) (fbG g (fl g N) f ((g.2.2.2.2.2 26) f)) := by
        rw [hfl]
        rfl
      rw [hwl, show p + T f = p + 1 + sB g T f ((g.2.2.2.2.2 26) f) by omega, ← hlast, hrow]
      have e0 : sB g T f 0 = 0 := rfl
      have e1 : WL (rwF g r i) (upN (upN (upN (upN (upN F (5 * p) ((r.2.2.1 108) f)) (5 * p + 1) ((r.2.2.1 109) f)) (5 * p + 2) (nI i)) (5 * p + 3) 0) (5 * p + 4) (nI ((g.2.2.2.2.2 26) f))) (p + 1) (fbG g (fl g N) f 0) = upN (upN (upN (upN (upN F (5 * p) ((r.2.2.1 108) f)) (5 * p + 1) ((r.2.2.1 109) f)) (5 * p + 2) (nI i)) (5 * p + 3) 0) (5 * p + 4) (nI ((g.2.2.2.2.2 26) f)) := rfl
      rw [e1, e0, Nat.add_zero]
      simp (disch := first | exact c1_i _ | exact c1_r _ | exact c1_n | exact c1_m | omega | assumption | (apply ac_l; omega) | (apply ac_r; omega) | decide | exact Or.inl rfl) only [e_106_0, e_106_0n, e_106_1n, e_106_1, e_106_4, e_106_5, e_106_5n, e_106_6, e_106_7, e_106_8, e_106_9, e_106_12, e_106_13, e_106_14, e_106_14n, e_106_15, e_106_16, e_106_16n, e_106_17, e_106_20, e_106_21, e_106_21n, e_106_22, e_106_23, e_106_24, e_106_25, e_106_25n, e_106_26, e_106_29, e_106_30, e_106_30n, e_106_31, e_106_32, e_106_33, e_106_34, e_106_34n, e_106_35, e_106_38, e_106_39, e_106_39n, e_106_40, e_106_41, e_106_42, e_106_43, e_106_43n, e_106_44, e_106_47n, e_106_47, e_106_50, e_106_51, e_106_54, e_106_55, e_106_56, e_106_56n, e_106_57, e_106_58, e_106_59, e_106_60, e_106_60n, e_106_61, e_106_64, e_106_65, e_106_65n, e_106_66, e_106_69, e_106_69n, e_106_70, e_106_70n, e_106_71, e_106_72, e_106_73, e_106_74, e_106_77, e_106_79, e_106_80, Option.toList_some, Option.toList_none, List.cons_append, List.nil_append, catS_cons, catS_nil, cat_int, cat_long, cat_ref, cat_null, c1_i, c1_r, c1_n, c1_m, true_and, and_true, and_self, putR_1, putR_u, eq_self, Nat.reduceLT, Nat.reduceLeDiff, Nat.reduceAdd, Nat.reduceEqDiff, vk_i, vk_l, vk_r, vk_n, vk_0, vk_1, if_true, if_false, not_true_eq_false, not_false_eq_true, false_and, and_false, ne_eq, true_or, or_true, ite_not, reduceCtorEq, putX_1, putX_u, putX_hi, hset_Xhi, px_5, xf_5_0, xf_5_1, xI_5_1, xf_5_2, xR_0, xf_5_3, xI_5_3, xf_5_4, xI_5_4, xf_5_5, xf_5_6, xI_5_6, xf_5_7, xf_5_8, xf_5_9, xf_5_10, xf_5_11, xf_5_12, xf_5_13, xf_5_14, xf_5_15, xI_5_15, px_6, xA_6, px_18, xA_18, px_19, xf_19_0, xI_19_0, xf_19_1, xR_1, xf_19_2, xI_19_2, px_20, xf_20_0, xI_20_0, xf_20_1, xR_2, xf_20_2, xI_20_2, px_21, xf_21_0, xI_21_0, xf_21_1, xR_3, xf_21_2, xI_21_2, px_22, xf_22_0, xI_22_0, xf_22_1, xR_4, xf_22_2, xI_22_2, px_23, xf_23_0, xI_23_0, xf_23_1, xR_5, xf_23_2, xI_23_2, px_24, xf_24_0, xI_24_0, xf_24_1, xR_6, xf_24_2, xI_24_2, px_25, xf_25_0, xI_25_0, xf_25_1, xI_25_1, xf_25_2, xf_25_3, xI_25_3, xf_25_4, xf_25_5, xf_25_6, px_26, xA_26, px_27, px_28, xA_28, px_29, xA_29, px_30, xA_30, px_31, xA_31, px_32, xA_32, px_33, xA_33, px_34, xA_34, px_35, xA_35, px_36, xA_36, px_37, xA_37, px_38, xA_38, px_39, xA_39, px_40, xA_40, px_41, xA_41, px_42, xA_42, px_43, xA_43, px_44, xA_44, px_45, xA_45, px_46, xA_46, px_47, xA_47, px_48, xA_48, px_49, xA_49, px_50, xA_50, px_51, xA_51, px_52, xA_52, px_53, xA_53, px_54, xA_54, px_55, xA_55, px_56, xA_56, px_57, xA_57, px_58, xA_58, px_59, xA_59, px_60, xA_60, px_61, xA_61, px_62, xA_62, px_63, xA_63, px_64, xA_64, px_65, xA_65, px_66, xA_66, px_67, xA_67, px_68, xA_68, px_69, xA_69, px_70, xf_70_0, xI_70_0, xf_70_1, xI_70_1, xf_70_2, xI_70_2, xf_70_3, xf_70_4, px_71, xA_71, px_72, xA_72, ni_ixL, ni_clL, ni_add, ni_mul, ni_lt, ni_le, ni_eq, ni_clamp, ni_ix, ni_lt0, ni_0le, ni_ltL, ni_Llt, ni_leL, ni_Lle, ni_eqL, ni_addL, ni_Ladd, ni_mulL, ni_Lmul, ni_subL, ni_sub, ni_Lsub, le_t, le_f, lt_t, lt_f, eq_f, il_lt, il_l0, il_g0, il_l1, il_g1, il_l2, il_g2, il_l3, il_g3, il_l4, il_g4, il_l5, il_g5, il_l7, il_g7, il_l8, il_g8, il_l9, il_g9, il_l10, il_g10, il_l15, il_g15, il_l20, il_g20, il_l23, il_g23, il_l24, il_g24, il_l60, il_g60, il_l100, il_g100, il_l999, il_g999, il_l1000, il_g1000, putR_lo, hset_lo, putR_lt hh, rd_hi, wr_hi, hs_1, hs_s, hs_o, uv_s, uv_o, pv_0, pv_n, i1_0, bs_0, bs_1, im_lt, im_ge, im_eq, ni_em, t, q0, q1, q2, q4, kt, k3, hI_o, hI_s, hI_set, A3, A4, e5, hpM, wA, wF, wD, x_copy0, p5]
      rfl
    · rw [if_neg hz] at q2 hTf hrow
      obtain ⟨p1, p2, -⟩ := s_fai hs (i := (g.2.2.2.2.2 24) f - 1) (by omega)
      rw [pv_n (by omega)] at q2
      have hcl := fl_len (N := N) (f := (g.2.2.2.2.2 24) f - 1) hf hT (by omega) (by omega)
      have hfl : fl g (N + 1) f = f :: (fl g N ((g.2.2.2.2.2 24) f - 1) ++ fbG g (fl g N) f ((g.2.2.2.2.2 26) f)) := by
        show f :: ((if (g.2.2.2.2.2 24) f = 0 then [] else _) ++ _) = _
        rw [if_neg hz]
      have hc := fun Q => ih ((g.2.2.2.2.2 24) f - 1) (by omega) (p + 1) (wrF F (rwF g r i f) (5 * p) 5) Q (by omega)
      have hlast := hl (p + 1 + T ((g.2.2.2.2.2 24) f - 1)) (WL (rwF g r i) (wrF F (rwF g r i f) (5 * p) 5) (p + 1) (fl g N ((g.2.2.2.2.2 24) f - 1))) Q (by omega)
      have hwl : WL (rwF g r i) F p (fl g (N + 1) f) = WL (rwF g r i) (WL (rwF g r i) (wrF F (rwF g r i f) (5 * p) 5) (p + 1) (fl g N ((g.2.2.2.2.2 24) f - 1))) (p + 1 + T ((g.2.2.2.2.2 24) f - 1)) (fbG g (fl g N) f ((g.2.2.2.2.2 26) f)) := by
        rw [hfl]
        show WL (rwF g r i) (wrF F (rwF g r i f) (5 * p) 5) (p + 1) (_ ++ _) = _
        rw [WL_a, hcl]
      rw [hwl, show p + T f = p + 1 + T ((g.2.2.2.2.2 24) f - 1) + sB g T f ((g.2.2.2.2.2 26) f) by omega, ← hlast]
      have e0 : sB g T f 0 = 0 := rfl
      have e1 : ∀ G s, WL (rwF g r i) G s (fbG g (fl g N) f 0) = G := fun _ _ => rfl
      rw [e1, e0, Nat.add_zero]
      rw [hrow] at hc ⊢
      simp (disch := first | exact c1_i _ | exact c1_r _ | exact c1_n | exact c1_m | omega | assumption | (apply ac_l; omega) | (apply ac_r; omega) | decide | exact Or.inl rfl) only [e_106_0, e_106_0n, e_106_1n, e_106_1, e_106_4, e_106_5, e_106_5n, e_106_6, e_106_7, e_106_8, e_106_9, e_106_12, e_106_13, e_106_14, e_106_14n, e_106_15, e_106_16, e_106_16n, e_106_17, e_106_20, e_106_21, e_106_21n, e_106_22, e_106_23, e_106_24, e_106_25, e_106_25n, e_106_26, e_106_29, e_106_30, e_106_30n, e_106_31, e_106_32, e_106_33, e_106_34, e_106_34n, e_106_35, e_106_38, e_106_39, e_106_39n, e_106_40, e_106_41, e_106_42, e_106_43, e_106_43n, e_106_44, e_106_47n, e_106_47, e_106_50, e_106_51, e_106_54, e_106_55, e_106_56, e_106_56n, e_106_57, e_106_58, e_106_59, e_106_60, e_106_60n, e_106_61, e_106_64, e_106_65, e_106_65n, e_106_66, e_106_69, e_106_69n, e_106_70, e_106_70n, e_106_71, e_106_72, e_106_73, e_106_74, e_106_77, e_106_79, e_106_80, Option.toList_some, Option.toList_none, List.cons_append, List.nil_append, catS_cons, catS_nil, cat_int, cat_long, cat_ref, cat_null, c1_i, c1_r, c1_n, c1_m, true_and, and_true, and_self, putR_1, putR_u, eq_self, Nat.reduceLT, Nat.reduceLeDiff, Nat.reduceAdd, Nat.reduceEqDiff, vk_i, vk_l, vk_r, vk_n, vk_0, vk_1, if_true, if_false, not_true_eq_false, not_false_eq_true, false_and, and_false, ne_eq, true_or, or_true, ite_not, reduceCtorEq, putX_1, putX_u, putX_hi, hset_Xhi, px_5, xf_5_0, xf_5_1, xI_5_1, xf_5_2, xR_0, xf_5_3, xI_5_3, xf_5_4, xI_5_4, xf_5_5, xf_5_6, xI_5_6, xf_5_7, xf_5_8, xf_5_9, xf_5_10, xf_5_11, xf_5_12, xf_5_13, xf_5_14, xf_5_15, xI_5_15, px_6, xA_6, px_18, xA_18, px_19, xf_19_0, xI_19_0, xf_19_1, xR_1, xf_19_2, xI_19_2, px_20, xf_20_0, xI_20_0, xf_20_1, xR_2, xf_20_2, xI_20_2, px_21, xf_21_0, xI_21_0, xf_21_1, xR_3, xf_21_2, xI_21_2, px_22, xf_22_0, xI_22_0, xf_22_1, xR_4, xf_22_2, xI_22_2, px_23, xf_23_0, xI_23_0, xf_23_1, xR_5, xf_23_2, xI_23_2, px_24, xf_24_0, xI_24_0, xf_24_1, xR_6, xf_24_2, xI_24_2, px_25, xf_25_0, xI_25_0, xf_25_1, xI_25_1, xf_25_2, xf_25_3, xI_25_3, xf_25_4, xf_25_5, xf_25_6, px_26, xA_26, px_27, px_28, xA_28, px_29, xA_29, px_30, xA_30, px_31, xA_31, px_32, xA_32, px_33, xA_33, px_34, xA_34, px_35, xA_35, px_36, xA_36, px_37, xA_37, px_38, xA_38, px_39, xA_39, px_40, xA_40, px_41, xA_41, px_42, xA_42, px_43, xA_43, px_44, xA_44, px_45, xA_45, px_46, xA_46, px_47, xA_47, px_48, xA_48, px_49, xA_49, px_50, xA_50, px_51, xA_51, px_52, xA_52, px_53, xA_53, px_54, xA_54, px_55, xA_55, px_56, xA_56, px_57, xA_57, px_58, xA_58, px_59, xA_59, px_60, xA_60, px_61, xA_61, px_62, xA_62, px_63, xA_63, px_64, xA_64, px_65, xA_65, px_66, xA_66, px_67, xA_67, px_68, xA_68, px_69, xA_69, px_70, xf_70_0, xI_70_0, xf_70_1, xI_70_1, xf_70_2, xI_70_2, xf_70_3, xf_70_4, px_71, xA_71, px_72, xA_72, ni_ixL, ni_clL, ni_add, ni_mul, ni_lt, ni_le, ni_eq, ni_clamp, ni_ix, ni_lt0, ni_0le, ni_ltL, ni_Llt, ni_leL, ni_Lle, ni_eqL, ni_addL, ni_Ladd, ni_mulL, ni_Lmul, ni_subL, ni_sub, ni_Lsub, le_t, le_f, lt_t, lt_f, eq_f, il_lt, il_l0, il_g0, il_l1, il_g1, il_l2, il_g2, il_l3, il_g3, il_l4, il_g4, il_l5, il_g5, il_l7, il_g7, il_l8, il_g8, il_l9, il_g9, il_l10, il_g10, il_l15, il_g15, il_l20, il_g20, il_l23, il_g23, il_l24, il_g24, il_l60, il_g60, il_l100, il_g100, il_l999, il_g999, il_l1000, il_g1000, putR_lo, hset_lo, putR_lt hh, rd_hi, wr_hi, hs_1, hs_s, hs_o, uv_s, uv_o, pv_0, pv_n, i1_0, bs_0, bs_1, im_lt, im_ge, im_eq, ni_em, t, q0, q1, q2, q4, kt, k3, hI_o, hI_s, hI_set, A3, A4, e5, hpM, wA, wF, wD, p5, hc]
      rfl
end
