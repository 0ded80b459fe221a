section
variable {K : Nat → pcell} {tb : Nat} {g g' : gS} {r r' r0 : rS} {x x' : xS} {h h' : pheap} {a n k m i j c p q d A M f N : Nat} {Q : Option Value → pheap → Prop} {T : Nat → Nat} {R : Nat → Nat → Int32} {F B : Nat → Int32} {e : Int32}
/-- FAIL: both make the same tree -/
theorem fail_ok (hw : World K tb g r x h) (hff : f < (g.1 0 2)) (hi : i < (g.1 0 3)) : ∃ g' r' h', World K tb g' r' x h' ∧ Gro g' g h' h 1 60 ∧ SC r' r ∧ Out g' r' h' e 0 h.1 ((g.2.2.2.2.2 36) f) ∧
    (∀ d r0 Q, Go (d + 30) 105 0 [.ref ((g.1 3) f), .ref ((g.1 4) i), mk0] [] (putR r0 (putX x h)) Q = Q (some (.ref h.1)) (putR r0 (putX x h'))) ∧
    (∀ d (H : pheap) Q, 146 ≤ H.1 → Go (d + 3) 254 0 [.ref 73, .int (nI f), .int (nI i), mk0, mk0, mk0] [] (putR r H) Q = Q none (putR r' H)) := by
  have hh := sim_146 hw.1
  have hnf : (g.1 0 2) ≤ 16 := hw.2.1.1.2.2.2.2.1.2
  obtain ⟨-, -, -, -, -, -, -, u8, u9, -⟩ := w_fai hw f hff
  have t0 := sim_top hw.1 (Nat.le_refl h.1)
  have hTf := w_tsz hw f hff
  have hM1 : 1 ≤ (g.2.2.2.2.2 36) f := by omega
  obtain ⟨B', hr⟩ := r_failsAs (i := i) hw hff
  have hlen := fl_len (N := 20) (f := f) (w_fst hw) (w_tsz hw) (by omega) hff
  have hs1 : Sim K g r x (hnew h 20 (5 * (g.2.2.2.2.2 36) f) (fun _ => dflA 20)) := sim_new hw.1 _ _ _
  have hcell : (hnew h 20 (5 * (g.2.2.2.2.2 36) f) (fun _ => dflA 20)).2.2 h.1 = (20, 5 * (g.2.2.2.2.2 36) f, fun _ => dflA 20) := hn_s _ _ _
  have hH : CpH g (hnew h 20 (5 * (g.2.2.2.2.2 36) f) (fun _ => dflA 20)) h.1 ((g.2.2.2.2.2 36) f) := ⟨hh, by rw [hn_1]; omega, by rw [hcell], by rw [hcell], u9⟩
  have hI0 : hI (hnew h 20 (5 * (g.2.2.2.2.2 36) f) (fun _ => dflA 20)) h.1 (fun _ => 0) = hnew h 20 (5 * (g.2.2.2.2.2 36) f) (fun _ => dflA 20) := by
    have := hC_i (h := hnew h 20 (5 * (g.2.2.2.2.2 36) f) (fun _ => dflA 20)) (a := h.1)
    rw [hcell] at this
    exact this
  have hx := fun d r0 Q => x_copyF (r0 := r0) (T := (g.2.2.2.2.2 36)) hs1 hH hi (w_fst hw) (w_tsz hw) 20 f (by omega) hff (d + 29) 0 (fun _ => 0) Q (by omega) (by omega)
  rw [hI0] at hx
  generalize hW : WL (rwF g r i) (fun _ => 0) 0 (fl g 20 f) = W at hx
  have hWk : ∀ k, k < 5 * (g.2.2.2.2.2 36) f → W k = WL (rwF g r i) ((r.2.2.1 132)) 720 (fl g 20 f) (3600 + k) := fun k hk => by
    rw [← hW]
    exact WL_two hk hlen
  have hs2 : Sim K g r x (hI (hnew h 20 (5 * (g.2.2.2.2.2 36) f) (fun _ => dflA 20)) h.1 W) := sim_jC hs1 t0 hh _
  have hc2 : (hI (hnew h 20 (5 * (g.2.2.2.2.2 36) f) (fun _ => dflA 20)) h.1 W).2.2 h.1 = (20, 5 * (g.2.2.2.2.2 36) f, fun k => .int (W k)) := by
    rw [hI_s, hcell]
  have w1 := w_prom (w := (0, 0, 0)) (w2 := (5 * (g.2.2.2.2.2 36) f, W)) (k := 3) (⟨hs2, hw.2⟩ : World K tb g r x (hI (hnew h 20 (5 * (g.2.2.2.2.2 36) f) (fun _ => dflA 20)) h.1 W)) t0 hh (by rw [hI_sz, hn_1]; omega) ⟨by omega, by omega⟩ (fun z => by omega) (fun z => by omega) (fun _ => by
    rw [hc2]
    exact ⟨rfl, rfl, (by show 5 * (g.2.2.2.2.2 36) f ≤ 1000; omega), fun k hk => rfl⟩)
  have hsc : SC (fsR (sI r 78 1) B' (WL (rwF g r i) ((r.2.2.1 132)) 720 (fl g 20 f)) ((g.2.2.2.2.2 36) f)) r := by
    refine sc_t ?_ (sc_fail 1)
    refine ⟨fun _ _ _ _ _ _ _ _ _ => rfl, rfl, fun a q0 q1 q2 q3 q4 q5 q6 q7 q8 q9 q10 => fs_o q4 q8 q7, fun _ _ => rfl, fun j hj => upN_n _ _ (by omega), fun k hk => WL_lo _ _ _ _ (by omega), fun _ _ => ⟨rfl, rfl, fun _ _ => rfl⟩⟩
  have hu : (hI (hnew h 20 (5 * (g.2.2.2.2.2 36) f) (fun _ => dflA 20)) h.1 W).2.1 = h.2.1 + 5 * (g.2.2.2.2.2 36) f := rfl
  refine ⟨_, _, _, w_sc w1 hsc, ⟨rfl, rfl, by rw [hI_sz, hn_1]; omega, by rw [hI_sz, hn_1]; omega, by rw [hu]; omega, fun b hb => ⟨by rw [hI_o (by omega), hn_o _ _ _ (by omega)], gP_rn (by omega), gP_vn (by omega), gP_an (by omega)⟩⟩, hsc, Or.inr ⟨rfl, rfl, by omega, ⟨hh, by rw [hI_sz, hn_1]; omega, gP_ro⟩, hM1, u9, fs_M, by rw [gP_ar], fun k hk => ?_, fun j hj => ?_⟩, fun d r0 Q => ?_, fun d H Q hh => hr d H Q hh⟩
  · rw [gP_ar]
    exact hWk k hk
  · have h1 := WL_at (R := rwF g r i) (fl g 20 f) ((r.2.2.1 132)) 720 j 0 (by omega) (by omega)
    have hmem := fl_all (w_fst hw) 20 f hff _ (List.getElem_mem (l := fl g 20 f) (n := j) (by omega))
    obtain ⟨⟨k, k1, k2⟩, -⟩ := w_fai hw _ (show (fl g 20 f)[j]'(by omega) < (g.1 0 2) by omega)
    refine ⟨k, k1, ?_⟩
    rw [show 3600 + 5 * j = 5 * (720 + j) + 0 by omega]
    exact h1.trans k2
  · have e1 := fun Q => x_sizeOf (r0 := r0) (T := (g.2.2.2.2.2 36)) hw.1 (w_fst hw) (w_tsz hw) 20 f (by omega) hff (d + 29) Q (by omega)
    have e2 := fun Q => hx d r0 Q
    have e2' : ∀ Q, Go (d + 29) 106 0 [.ref ((g.1 3) f), .ref ((g.1 4) i), .ref h.1, .int 0, mk0, mk0] [] (putR r0 (putX x (hnew h 20 (5 * (g.2.2.2.2.2 36) f) (fun _ => dflA 20)))) Q = _ := e2
    have mc : (g.2.2.2.2.2 36) f * 5 = 5 * (g.2.2.2.2.2 36) f := Nat.mul_comm _ _
    simp (disch := first | exact c1_i _ | exact c1_r _ | exact c1_n | exact c1_m | omega | assumption | (simp only [hn_1, hs_1, hC_1]; omega) | (apply ac_l; omega) | (apply ac_r; omega) | decide | exact Or.inl rfl) only [e_105_0, e_105_0n, e_105_1, e_105_4, e_105_5, e_105_6, e_105_8, e_105_8n, e_105_9, e_105_9n, e_105_10, e_105_10n, e_105_11, e_105_11n, e_105_12, e_105_13, e_105_16, e_105_17, e_105_17n, e_105_18, e_105_18n, Option.toList_some, Option.toList_none, List.cons_append, List.nil_append, catS_cons, catS_nil, cat_int, cat_long, cat_ref, cat_null, c1_i, c1_r, c1_n, c1_m, true_and, and_true, and_self, putR_1, putR_u, eq_self, Nat.reduceLT, Nat.reduceLeDiff, Nat.reduceAdd, Nat.reduceEqDiff, vk_i, vk_l, vk_r, vk_n, vk_0, vk_1, if_true, if_false, not_true_eq_false, not_false_eq_true, false_and, and_false, ne_eq, true_or, or_true, ite_not, reduceCtorEq, putX_1, putX_u, putX_hi, hset_Xhi, px_5, xf_5_0, xf_5_1, xI_5_1, xf_5_2, xR_0, xf_5_3, xI_5_3, xf_5_4, xI_5_4, xf_5_5, xf_5_6, xI_5_6, xf_5_7, xf_5_8, xf_5_9, xf_5_10, xf_5_11, xf_5_12, xf_5_13, xf_5_14, xf_5_15, xI_5_15, px_6, xA_6, px_18, xA_18, px_19, xf_19_0, xI_19_0, xf_19_1, xR_1, xf_19_2, xI_19_2, px_20, xf_20_0, xI_20_0, xf_20_1, xR_2, xf_20_2, xI_20_2, px_21, xf_21_0, xI_21_0, xf_21_1, xR_3, xf_21_2, xI_21_2, px_22, xf_22_0, xI_22_0, xf_22_1, xR_4, xf_22_2, xI_22_2, px_23, xf_23_0, xI_23_0, xf_23_1, xR_5, xf_23_2, xI_23_2, px_24, xf_24_0, xI_24_0, xf_24_1, xR_6, xf_24_2, xI_24_2, px_25, xf_25_0, xI_25_0, xf_25_1, xI_25_1, xf_25_2, xf_25_3, xI_25_3, xf_25_4, xf_25_5, xf_25_6, px_26, xA_26, px_27, px_28, xA_28, px_29, xA_29, px_30, xA_30, px_31, xA_31, px_32, xA_32, px_33, xA_33, px_34, xA_34, px_35, xA_35, px_36, xA_36, px_37, xA_37, px_38, xA_38, px_39, xA_39, px_40, xA_40, px_41, xA_41, px_42, xA_42, px_43, xA_43, px_44, xA_44, px_45, xA_45, px_46, xA_46, px_47, xA_47, px_48, xA_48, px_49, xA_49, px_50, xA_50, px_51, xA_51, px_52, xA_52, px_53, xA_53, px_54, xA_54, px_55, xA_55, px_56, xA_56, px_57, xA_57, px_58, xA_58, px_59, xA_59, px_60, xA_60, px_61, xA_61, px_62, xA_62, px_63, xA_63, px_64, xA_64, px_65, xA_65, px_66, xA_66, px_67, xA_67, px_68, xA_68, px_69, xA_69, px_70, xf_70_0, xI_70_0, xf_70_1, xI_70_1, xf_70_2, xI_70_2, xf_70_3, xf_70_4, px_71, xA_71, px_72, xA_72, ni_ixL, ni_clL, ni_add, ni_mul, ni_lt, ni_le, ni_eq, ni_clamp, ni_ix, ni_lt0, ni_0le, ni_ltL, ni_Llt, ni_leL, ni_Lle, ni_eqL, ni_addL, ni_Ladd, ni_mulL, ni_Lmul, ni_subL, ni_sub, ni_Lsub, le_t, le_f, lt_t, lt_f, eq_f, il_lt, il_l0, il_g0, il_l1, il_g1, il_l2, il_g2, il_l3, il_g3, il_l4, il_g4, il_l5, il_g5, il_l7, il_g7, il_l8, il_g8, il_l9, il_g9, il_l10, il_g10, il_l15, il_g15, il_l20, il_g20, il_l23, il_g23, il_l24, il_g24, il_l60, il_g60, il_l100, il_g100, il_l999, il_g999, il_l1000, il_g1000, putR_lo, hset_lo, putR_lt hh, rd_hi, wr_hi, hs_1, hs_s, hs_o, uv_s, uv_o, pv_0, pv_n, i1_0, bs_0, bs_1, im_lt, im_ge, im_eq, ni_em, nw_hi, hn_1, hn_s, hn_o, ni_Ll0, e1, mc, e2']
end
