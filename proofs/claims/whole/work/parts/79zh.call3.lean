section
variable {K : Nat → pcell} {tb : Nat} {g g' g1 g2 g0 : gS} {r r' r0 r1 r2 s s' : rS} {x x' x1 x2 xb : xS} {h h' h1 h2 h0 : pheap} {a n k m i j c p q d A N o mi dd ss t b L : Nat} {Q : Option Value → pheap → Prop} {e : Int32} {sr ws : Nat → Int32} {av : Nat → Nat}
theorem byt_cl : bytF (clX x) L = bytF x L := by
  have : ∀ i, (clX x).1 71 i = x.1 71 i := fun i => by
    unfold clX
    rw [tI_ne _ _ (by omega), tI_ne _ _ (by omega)]
  unfold bytF
  simp only [this]
theorem hC_new {f f2 : Nat → Value} {v : Value} (h1 : b ≠ a) (h2 : b ≠ h.1) : hset (hnew (hC h b f) 22 L f2) a 11 v = hC (hset (hnew h 22 L f2) a 11 v) b f := ph_ext rfl rfl (fun c => by
  by_cases e1 : c = b
  · subst e1
    rw [hs_o _ _ h1, hn_o _ _ _ (show c ≠ (hC h c f).1 from h2), hC_s, hC_s, hs_o _ _ h1, hn_o _ _ _ h2]
  · rw [hC_o _ e1]
    by_cases e2 : c = a
    · subst e2
      rw [hs_s, hs_s]
      by_cases e3 : c = h.1
      · subst e3
        have y1 := hn_s (h := hC h b f) 22 L f2
        have y2 : (hC h b f).1 = h.1 := rfl
        rw [y2] at y1
        rw [y1, hn_s]
      · rw [hn_o _ _ _ (show c ≠ (hC h b f).1 from e3), hn_o _ _ _ e3, hC_o _ e1]
    · rw [hs_o _ _ e2, hs_o _ _ e2]
      by_cases e3 : c = h.1
      · subst e3
        have y1 := hn_s (h := hC h b f) 22 L f2
        have y2 : (hC h b f).1 = h.1 := rfl
        rw [y2] at y1
        rw [y1, hn_s]
      · rw [hn_o _ _ _ (show c ≠ (hC h b f).1 from e3), hn_o _ _ _ e3, hC_o _ e1])
/-- a call to another desk -/
theorem call_rem (hw : World K tb g r x h) (hi : i < (g.1 0 3)) (ho : o < (g.1 0 4)) (hm : m < (g.2.2.2.2.2 9) ((g.2.2.2.2.2 13) o)) (hc : CK g r i o m) (hn : (g.1 0 5) < 60) (he : ¬ (g.2.2.2.2.2 12) o = i) : Same K tb r x h 85 [.ref 5, .int (nI i), .int (nI o), .int (nI m), mk0, mk0, mk0, mk0, mk0, mk0] 222 [.ref 73, .int (nI i), .int (nI o), .int (nI m), mk0, mk0, mk0, mk0, mk0] := by
  have hh := sim_146 hw.1
  obtain ⟨c1, c2, c3⟩ := w_nc hw
  obtain ⟨d1, d2, -⟩ := w_nd hw
  obtain ⟨o1, o2, -⟩ := w_no hw
  obtain ⟨n1, n2, n3⟩ := w_nh hw
  obtain ⟨v1, v2, v3, v4, -⟩ := w_obj hw o ho
  obtain ⟨b, b1, b2, y, hM⟩ := r_call1 hw hi ho hm
  obtain ⟨hX, -⟩ := x_call1 hw hi ho hm
  replace hX := hX hc
  have hb := b2.mpr hc
  subst hb
  have hw1 := w_hv (n := (g.1 0 0)) (j := (g.1 0 0)) hw
  obtain ⟨hA, hA0⟩ := args_hand hw
  obtain ⟨-, -, -, -, -, hk⟩ := w_dsk hw i (by omega)
  obtain ⟨ag, bb, p5, p6, p7, p8⟩ := ((hk hi o (by omega)).1).resolve_left (hc.1.resolve_left he)
  obtain ⟨xw, rw', y1, y2, y3, y4, y5⟩ := req_ok (i := i) (o := o) (m := m) (ag := ag) hw1 hA hi ho hm (by omega) p7 hc.2.1 (fun k hk => (hc.2.2 k (Nat.zero_le _) hk).symm)
  have hv1 : (hvH h (g.1 0 0) ((g.1 1)) (g.1 0 0)).1 = h.1 + 1 := hv_1
  have hv2 : (hvH h (g.1 0 0) ((g.1 1)) (g.1 0 0)).2.1 = h.2.1 + (g.1 0 0) := hv_u
  obtain ⟨t1, t2, ⟨t, q0, q1, q2, q3, q4, q5, q6, q7, q8⟩⟩ := s_thg hw1.1 ho
  obtain ⟨k1, k2, -⟩ := s_dsk hw.1 hi
  obtain ⟨k3, k4, -⟩ := s_dsk hw.1 v2
  have esz := fun d r0 Q => x_size_call (d := d) (r0 := r0) (Q := Q) hw1
  have hhost : ((g.1 4) ((g.2.2.2.2.2 12) o) = (g.1 4) i) = False := by rw [d_eq hw.1 v2 hi]; exact eq_false he
  have hw2 : World K tb g rw' xw (hvH h (g.1 0 0) ((g.1 1)) (g.1 0 0)) := w_xm (w_rm hw1 y2) y1
  rcases y3 with y3 | ⟨L, M, ml, w1, w2, w3, w4⟩
  · -- too great
    generalize hvH h (g.1 0 0) ((g.1 1)) (g.1 0 0) = hV at *
    refine same_of (v := some (.int (-100004))) (w_up hw2) (fun d Q => ?_) (fun d H Q hH => ?_) (by omega) (by omega)
    · rw [hX d r Q]
      have e1 := fun Q => esz (d + 98) r Q
      have e2 := fun Q => y4 (d + 68) r Q
      rw [y3.1, if_neg (by decide)] at e2
      have hhV : 146 ≤ hV.1 := by omega
      simp (disch := first | exact c1_i _ | exact c1_r _ | exact c1_n | exact c1_m | omega | assumption | (apply ac_l; omega) | (apply ac_r; omega) | decide | exact Or.inl rfl) only [e_85_85, e_85_85n, e_85_87, e_85_90, e_85_90n, e_85_92, e_85_92nr, e_85_92rn, e_85_92nn, e_85_95, e_85_96, e_85_99, e_85_100, e_85_102, e_85_102n, e_85_103, e_85_106, e_85_109, e_85_111, e_85_114, e_85_116, e_85_119, e_85_119n, e_85_120, e_85_120n, e_85_122, e_85_122n, e_85_124, e_85_125, e_85_125n, e_85_127, e_85_130, e_85_133, e_85_135, Option.toList_some, Option.toList_none, List.cons_append, List.nil_append, catS_cons, catS_nil, cat_int, cat_long, cat_ref, cat_null, c1_i, c1_r, c1_n, c1_m, true_and, and_true, and_self, putR_1, putR_u, eq_self, Nat.reduceLT, Nat.reduceLeDiff, Nat.reduceAdd, Nat.reduceEqDiff, vk_i, vk_l, vk_r, vk_n, vk_0, vk_1, if_true, if_false, not_true_eq_false, not_false_eq_true, false_and, and_false, ne_eq, true_or, or_true, ite_not, reduceCtorEq, putX_1, putX_u, putX_hi, hset_Xhi, px_5, xf_5_0, xf_5_1, xI_5_1, xf_5_2, xR_0, xf_5_3, xI_5_3, xf_5_4, xI_5_4, xf_5_5, xf_5_6, xI_5_6, xf_5_7, xf_5_8, xf_5_9, xf_5_10, xf_5_11, xf_5_12, xf_5_13, xf_5_14, xf_5_15, xI_5_15, px_6, xA_6, px_18, xA_18, px_19, xf_19_0, xI_19_0, xf_19_1, xR_1, xf_19_2, xI_19_2, px_20, xf_20_0, xI_20_0, xf_20_1, xR_2, xf_20_2, xI_20_2, px_21, xf_21_0, xI_21_0, xf_21_1, xR_3, xf_21_2, xI_21_2, px_22, xf_22_0, xI_22_0, xf_22_1, xR_4, xf_22_2, xI_22_2, px_23, xf_23_0, xI_23_0, xf_23_1, xR_5, xf_23_2, xI_23_2, px_24, xf_24_0, xI_24_0, xf_24_1, xR_6, xf_24_2, xI_24_2, px_25, xf_25_0, xI_25_0, xf_25_1, xI_25_1, xf_25_2, xf_25_3, xI_25_3, xf_25_4, xf_25_5, xf_25_6, px_26, xA_26, px_27, px_28, xA_28, px_29, xA_29, px_30, xA_30, px_31, xA_31, px_32, xA_32, px_33, xA_33, px_34, xA_34, px_35, xA_35, px_36, xA_36, px_37, xA_37, px_38, xA_38, px_39, xA_39, px_40, xA_40, px_41, xA_41, px_42, xA_42, px_43, xA_43, px_44, xA_44, px_45, xA_45, px_46, xA_46, px_47, xA_47, px_48, xA_48, px_49, xA_49, px_50, xA_50, px_51, xA_51, px_52, xA_52, px_53, xA_53, px_54, xA_54, px_55, xA_55, px_56, xA_56, px_57, xA_57, px_58, xA_58, px_59, xA_59, px_60, xA_60, px_61, xA_61, px_62, xA_62, px_63, xA_63, px_64, xA_64, px_65, xA_65, px_66, xA_66, px_67, xA_67, px_68, xA_68, px_69, xA_69, px_70, xf_70_0, xI_70_0, xf_70_1, xI_70_1, xf_70_2, xI_70_2, xf_70_3, xf_70_4, px_71, xA_71, px_72, xA_72, ni_ixL, ni_clL, ni_add, ni_mul, ni_lt, ni_le, ni_eq, ni_clamp, ni_ix, ni_lt0, ni_0le, ni_ltL, ni_Llt, ni_leL, ni_Lle, ni_eqL, ni_addL, ni_Ladd, ni_mulL, ni_Lmul, ni_subL, ni_sub, ni_Lsub, le_t, le_f, lt_t, lt_f, eq_f, il_lt, il_l0, il_g0, il_l1, il_g1, il_l2, il_g2, il_l3, il_g3, il_l4, il_g4, il_l5, il_g5, il_l7, il_g7, il_l8, il_g8, il_l9, il_g9, il_l10, il_g10, il_l15, il_g15, il_l20, il_g20, il_l23, il_g23, il_l24, il_g24, il_l60, il_g60, il_l100, il_g100, il_l999, il_g999, il_l1000, il_g1000, putR_lo, hset_lo, putR_lt hh, rd_hi, wr_hi, hs_1, hs_s, hs_o, uv_s, uv_o, pv_0, pv_n, i1_0, bs_0, bs_1, im_lt, im_ge, im_eq, ni_em, putR_lt hhV, t, q1, hhost, e1, e2]
    · have hh := hH
      have hn60 : ¬ (g.1 0 5) = 60 := by omega
      have e2 := fun Q => y5 (d + 94) H Q hH
      have e2' : ∀ Q, Go (d + 94 + 5) 223 0 [.ref 73, .int (nI i), .int (nI o), .int (nI m), .int 0, mk0, mk0] [] (putR r H) Q = Q none (putR rw' H) := e2
      have e3 := y3.2
      rw [hM (d + 94) H Q hH, if_neg he]
      unfold clL
      simp (disch := first | exact c1_i _ | exact c1_r _ | exact c1_n | exact c1_m | omega | assumption | (apply ac_l; omega) | (apply ac_r; omega) | decide | exact Or.inl rfl) only [e_222_165, e_222_167, e_222_170, e_222_173, e_222_174, e_222_174n, e_222_175, e_222_178, e_222_180, e_222_183, e_222_185, e_222_186, e_222_188, e_222_191, e_222_191n, e_222_192, e_222_193, e_222_194, e_222_195, e_222_196, e_222_199, e_222_199n, e_222_200, e_222_203, e_222_206, e_222_208, Option.toList_some, Option.toList_none, List.cons_append, List.nil_append, catS_cons, catS_nil, cat_int, cat_long, cat_ref, cat_null, c1_i, c1_r, c1_n, c1_m, true_and, and_true, and_self, putR_1, putR_u, eq_self, Nat.reduceLT, Nat.reduceLeDiff, Nat.reduceAdd, Nat.reduceEqDiff, vk_i, vk_l, vk_r, vk_n, vk_0, vk_1, if_true, if_false, not_true_eq_false, not_false_eq_true, false_and, and_false, ne_eq, true_or, or_true, ite_not, reduceCtorEq, pr_73, pr_74, pr_75, pr_76, pr_77, pr_78, pr_79, pr_80, pr_81, pr_82, pr_83, pr_84, pr_85, pr_86, pr_87, pr_88, pr_89, pr_90, pr_91, pr_92, pr_93, pr_94, pr_95, pr_96, pr_97, pr_98, pr_99, pr_100, pr_101, pr_102, pr_103, pr_104, pr_105, pr_106, pr_107, pr_108, pr_109, pr_110, pr_111, pr_112, pr_113, pr_114, pr_115, pr_116, pr_117, pr_118, pr_119, pr_120, pr_121, pr_122, pr_123, pr_124, pr_125, pr_126, pr_127, pr_128, pr_129, pr_130, pr_131, pr_132, pr_133, pr_134, pr_135, pr_136, pr_137, pr_138, pr_139, pr_140, pr_141, pr_142, pr_143, pr_144, pr_145, rf_0, rf_1, hI_1, rf_2, hI_2, rf_3, hI_3, rf_4, hI_4, rf_5, hI_5, rf_6, hI_6, rf_7, hI_7, rf_8, rf_9, rf_10, rf_11, hI_11, rf_12, rf_13, rf_14, rf_15, rf_16, hI_16, rf_17, rf_18, rf_19, rf_20, rf_21, rf_22, rf_23, hI_23, rf_24, rf_25, rf_26, rf_27, rf_28, hI_28, rf_29, rf_30, hI_30, rf_31, rf_32, hI_32, rf_33, hI_33, rf_34, rf_35, rf_36, rf_37, rf_38, rf_39, rf_40, rf_41, hI_41, rf_42, rf_43, rf_44, rf_45, rf_46, rf_47, rf_48, rf_49, rf_50, hI_50, rf_51, rf_52, rf_53, rf_54, rf_55, rf_56, rf_57, hI_57, rf_58, rf_59, rf_60, rf_61, rf_62, rf_63, rf_64, rf_65, rf_66, rf_67, rf_68, rf_69, rf_70, rf_71, rf_72, rf_73, rf_74, rf_75, hI_75, rf_76, rf_77, rf_78, hI_78, rf_79, rf_80, rf_81, hI_81, rf_82, hI_82, rf_83, rf_84, hI_84, rf_85, rf_86, rf_87, hI_87, rf_88, hI_88, rf_89, hI_89, rf_90, hI_90, rf_91, rf_92, rf_93, rf_94, hI_94, rf_95, hI_95, rf_96, rf_97, rf_98, rf_99, rf_100, hset_W, hA_74, hL_75, hA_76, hL_77, hA_78, hL_79, hA_80, hL_81, hA_82, hL_83, hA_84, hA_85, hA_86, hL_87, hA_88, hA_89, hA_90, hA_91, hA_92, hA_93, hA_94, hA_95, hA_96, hA_97, hA_98, hA_99, hA_100, hA_101, hA_102, hA_103, hA_104, hA_105, hL_106, hA_107, hA_108, hA_109, hA_110, hA_111, hA_112, hA_113, hA_114, hA_115, hA_116, hA_117, hA_118, hA_119, hA_120, hA_121, hA_122, hA_123, hA_124, hA_125, hA_126, hA_127, hA_128, hA_129, hA_130, hA_131, hA_132, hA_133, hA_134, hA_135, hA_136, hA_137, hA_138, hA_139, hA_140, hA_141, hA_142, hA_143, hA_144, hA_145, ni_ixL, ni_clL, ni_add, ni_mul, ni_lt, ni_le, ni_eq, ni_clamp, ni_ix, ni_lt0, ni_0le, ni_ltL, ni_Llt, ni_leL, ni_Lle, ni_eqL, ni_addL, ni_Ladd, ni_mulL, ni_Lmul, ni_subL, ni_sub, ni_Lsub, le_t, le_f, lt_t, lt_f, eq_f, il_lt, il_l0, il_g0, il_l1, il_g1, il_l2, il_g2, il_l3, il_g3, il_l4, il_g4, il_l5, il_g5, il_l7, il_g7, il_l8, il_g8, il_l9, il_g9, il_l10, il_g10, il_l15, il_g15, il_l20, il_g20, il_l23, il_g23, il_l24, il_g24, il_l60, il_g60, il_l100, il_g100, il_l999, il_g999, il_l1000, il_g1000, r_in, putR_lt hh, sA_1, sA_s, i1_0, bs_0, bs_1, im_lt, im_ge, im_eq, ni_em, c1, hn60, e2', e3]
  · -- the request is written
    have hrm : ∀ a, a ≠ 134 → a ≠ 135 → a ≠ 136 → a ≠ 137 → rw'.2.2.1 a = r.2.2.1 a := y2.2.2.1
    have hrz : rw'.2.2.1 124 (g.1 0 5) = 0 := ((hw2.2.1.2.2.2.2.2.2.2.2.2.2 (g.1 0 5) hn 0 (by omega)).1 (Nat.le_refl _)).2.1
    have hdj : 0 + (g.1 0 0) ≤ 363 + 3 * (g.1 0 5) ∨ 363 + 3 * (g.1 0 5) + (g.1 0 0) ≤ 0 := Or.inl (by omega)
    have hco := cps_ok (r := frR rw' (g.1 0 5) (nI i) (nI o) (nI m) (nI ((g.2.2.2.2.2 12) o))) hdj (g.1 0 0) (Nat.le_refl _)
    have hcl2 := cl2_co hco.1 (fr_cl2 (dd := i) (t := o) (m := m) (ss := (g.2.2.2.2.2 12) o) hn hrz)
    have hrow : ∀ a, a ≠ 88 → a ≠ 89 → (cpsR (frR rw' (g.1 0 5) (nI i) (nI o) (nI m) (nI ((g.2.2.2.2.2 12) o))) 0 (363 + 3 * (g.1 0 5)) (g.1 0 0)).2.2.1 a = (frR rw' (g.1 0 5) (nI i) (nI o) (nI m) (nI ((g.2.2.2.2.2 12) o))).2.2.1 a := hco.1.2.2.1
    have hcx : CLx (cpsR (frR rw' (g.1 0 5) (nI i) (nI o) (nI m) (nI ((g.2.2.2.2.2 12) o))) 0 (363 + 3 * (g.1 0 5)) (g.1 0 0)) rw' := clx_t (clx_cps (g.1 0 0)) clx_fr
    have hc1 : Cl1 (cpsR (frR rw' (g.1 0 5) (nI i) (nI o) (nI m) (nI ((g.2.2.2.2.2 12) o))) 0 (363 + 3 * (g.1 0 5)) (g.1 0 0)) rw' (g.1 0 5) := cl1_t (cl1_cps (n := (g.1 0 0)) ⟨by omega, by omega⟩ (g.1 0 0) (Nat.le_refl _)) cl1_fr
    have hmv : (cpsR (frR rw' (g.1 0 5) (nI i) (nI o) (nI m) (nI ((g.2.2.2.2.2 12) o))) 0 (363 + 3 * (g.1 0 5)) (g.1 0 0)).2.2.1 130 (g.1 0 5) = 0 := by rw [hrow _ (by decide) (by decide)]; exact fr_mv hn
    have hmsg : (cpsR (frR rw' (g.1 0 5) (nI i) (nI o) (nI m) (nI ((g.2.2.2.2.2 12) o))) 0 (363 + 3 * (g.1 0 5)) (g.1 0 0)).2.2.1 134 = rw'.2.2.1 134 := by rw [hrow _ (by decide) (by decide)]; rfl
    have hms : (cpsR (frR rw' (g.1 0 5) (nI i) (nI o) (nI m) (nI ((g.2.2.2.2.2 12) o))) 0 (363 + 3 * (g.1 0 5)) (g.1 0 0)).1 81 = nI L := by rw [hco.1.1]; exact w1.2.2.2.1
    have hcn : rw'.1 57 = nI (g.1 0 5) := (w_nc hw2).1
    have hnm : rw'.1 30 = nI (g.1 0 0) := (w_nh hw2).1
    have hrunC : ∀ d (H : pheap) Q, 146 ≤ H.1 → Go (d + 100) 222 209 (clL g i o m 0 1 (.int y) mk0) [] (putR rw' H) Q = Go (d + 100) 222 259 (clL g i o m 0 1 (.int (nI (g.1 0 5))) (.int (nI (g.1 0 0)))) [] (putR (cpsR (frR rw' (g.1 0 5) (nI i) (nI o) (nI m) (nI ((g.2.2.2.2.2 12) o))) 0 (363 + 3 * (g.1 0 5)) (g.1 0 0)) H) Q := fun d H Q hH => by
      have hh := hH
      have e2 := fun Q => r_fresh0 (d := d + 97) (r := rw') (h := H) (n := (g.1 0 5)) (Q := Q) hH hcn hn (dd := nI i) (oo := nI o) (mm := nI m) (ss := nI ((g.2.2.2.2.2 12) o))
      have hfm : (frR rw' (g.1 0 5) (nI i) (nI o) (nI m) (nI ((g.2.2.2.2.2 12) o))).1 30 = nI (g.1 0 0) := hnm
      have e3 := fun (hr mi fb : Int32) => l_ccp (r := frR rw' (g.1 0 5) (nI i) (nI o) (nI m) (nI ((g.2.2.2.2.2 12) o))) (N := (g.1 0 5)) (n := (g.1 0 0)) (dd := nI i) (oo := nI o) (mm := nI m) (hr := hr) (mi := mi) (fb := fb) hn n2 hfm (g.1 0 0) 0 (by omega) (d + 98) H Q hH
      have hod : rw'.2.2.1 100 o = nI ((g.2.2.2.2.2 12) o) := (w_obj hw2 o ho).1
      unfold clL
      rw [← e3 (nI 0) (nI (8 * (g.2.2.2.2.2 13) o + m)) 1]
      have e5 : cpsR (frR rw' (g.1 0 5) (nI i) (nI o) (nI m) (nI ((g.2.2.2.2.2 12) o))) 0 (363 + 3 * (g.1 0 5)) 0 = frR rw' (g.1 0 5) (nI i) (nI o) (nI m) (nI ((g.2.2.2.2.2 12) o)) := rfl
      rw [e5]
      generalize frR rw' (g.1 0 5) (nI i) (nI o) (nI m) (nI ((g.2.2.2.2.2 12) o)) = rr at e2 ⊢
      simp (disch := first | exact c1_i _ | exact c1_r _ | exact c1_n | exact c1_m | omega | assumption | (apply ac_l; omega) | (apply ac_r; omega) | decide | exact Or.inl rfl) only [e_222_209, e_222_209n, e_222_210, e_222_211, e_222_212, e_222_213, e_222_213n, e_222_214, e_222_217, e_222_218, e_222_219, e_222_222, e_222_224, e_222_225, Option.toList_some, Option.toList_none, List.cons_append, List.nil_append, catS_cons, catS_nil, cat_int, cat_long, cat_ref, cat_null, c1_i, c1_r, c1_n, c1_m, true_and, and_true, and_self, putR_1, putR_u, eq_self, Nat.reduceLT, Nat.reduceLeDiff, Nat.reduceAdd, Nat.reduceEqDiff, vk_i, vk_l, vk_r, vk_n, vk_0, vk_1, if_true, if_false, not_true_eq_false, not_false_eq_true, false_and, and_false, ne_eq, true_or, or_true, ite_not, reduceCtorEq, pr_73, pr_74, pr_75, pr_76, pr_77, pr_78, pr_79, pr_80, pr_81, pr_82, pr_83, pr_84, pr_85, pr_86, pr_87, pr_88, pr_89, pr_90, pr_91, pr_92, pr_93, pr_94, pr_95, pr_96, pr_97, pr_98, pr_99, pr_100, pr_101, pr_102, pr_103, pr_104, pr_105, pr_106, pr_107, pr_108, pr_109, pr_110, pr_111, pr_112, pr_113, pr_114, pr_115, pr_116, pr_117, pr_118, pr_119, pr_120, pr_121, pr_122, pr_123, pr_124, pr_125, pr_126, pr_127, pr_128, pr_129, pr_130, pr_131, pr_132, pr_133, pr_134, pr_135, pr_136, pr_137, pr_138, pr_139, pr_140, pr_141, pr_142, pr_143, pr_144, pr_145, rf_0, rf_1, hI_1, rf_2, hI_2, rf_3, hI_3, rf_4, hI_4, rf_5, hI_5, rf_6, hI_6, rf_7, hI_7, rf_8, rf_9, rf_10, rf_11, hI_11, rf_12, rf_13, rf_14, rf_15, rf_16, hI_16, rf_17, rf_18, rf_19, rf_20, rf_21, rf_22, rf_23, hI_23, rf_24, rf_25, rf_26, rf_27, rf_28, hI_28, rf_29, rf_30, hI_30, rf_31, rf_32, hI_32, rf_33, hI_33, rf_34, rf_35, rf_36, rf_37, rf_38, rf_39, rf_40, rf_41, hI_41, rf_42, rf_43, rf_44, rf_45, rf_46, rf_47, rf_48, rf_49, rf_50, hI_50, rf_51, rf_52, rf_53, rf_54, rf_55, rf_56, rf_57, hI_57, rf_58, rf_59, rf_60, rf_61, rf_62, rf_63, rf_64, rf_65, rf_66, rf_67, rf_68, rf_69, rf_70, rf_71, rf_72, rf_73, rf_74, rf_75, hI_75, rf_76, rf_77, rf_78, hI_78, rf_79, rf_80, rf_81, hI_81, rf_82, hI_82, rf_83, rf_84, hI_84, rf_85, rf_86, rf_87, hI_87, rf_88, hI_88, rf_89, hI_89, rf_90, hI_90, rf_91, rf_92, rf_93, rf_94, hI_94, rf_95, hI_95, rf_96, rf_97, rf_98, rf_99, rf_100, hset_W, hA_74, hL_75, hA_76, hL_77, hA_78, hL_79, hA_80, hL_81, hA_82, hL_83, hA_84, hA_85, hA_86, hL_87, hA_88, hA_89, hA_90, hA_91, hA_92, hA_93, hA_94, hA_95, hA_96, hA_97, hA_98, hA_99, hA_100, hA_101, hA_102, hA_103, hA_104, hA_105, hL_106, hA_107, hA_108, hA_109, hA_110, hA_111, hA_112, hA_113, hA_114, hA_115, hA_116, hA_117, hA_118, hA_119, hA_120, hA_121, hA_122, hA_123, hA_124, hA_125, hA_126, hA_127, hA_128, hA_129, hA_130, hA_131, hA_132, hA_133, hA_134, hA_135, hA_136, hA_137, hA_138, hA_139, hA_140, hA_141, hA_142, hA_143, hA_144, hA_145, ni_ixL, ni_clL, ni_add, ni_mul, ni_lt, ni_le, ni_eq, ni_clamp, ni_ix, ni_lt0, ni_0le, ni_ltL, ni_Llt, ni_leL, ni_Lle, ni_eqL, ni_addL, ni_Ladd, ni_mulL, ni_Lmul, ni_subL, ni_sub, ni_Lsub, le_t, le_f, lt_t, lt_f, eq_f, il_lt, il_l0, il_g0, il_l1, il_g1, il_l2, il_g2, il_l3, il_g3, il_l4, il_g4, il_l5, il_g5, il_l7, il_g7, il_l8, il_g8, il_l9, il_g9, il_l10, il_g10, il_l15, il_g15, il_l20, il_g20, il_l23, il_g23, il_l24, il_g24, il_l60, il_g60, il_l100, il_g100, il_l999, il_g999, il_l1000, il_g1000, r_in, putR_lt hh, sA_1, sA_s, i1_0, bs_0, bs_1, im_lt, im_ge, im_eq, ni_em, hod, e2]
      rfl
    generalize cpsR (frR rw' (g.1 0 5) (nI i) (nI o) (nI m) (nI ((g.2.2.2.2.2 12) o))) 0 (363 + 3 * (g.1 0 5)) (g.1 0 0) = rr at hcl2 hcx hc1 hmv hmsg hms hrunC
    have hL2 : L ≤ 240 := w1.2.2.2.2.1
    have hkq : ∀ k, k < L → (kqR rr (g.1 0 5) L).2.2.1 123 (240 * (g.1 0 5) + k) = rw'.2.2.1 134 k := fun k hk => by
      unfold kqR
      rw [sR_s, wrF_i _ _ hk, hmsg]
    have hcl3 : Cl2 (kqR rr (g.1 0 5) L) (rw'.1 75) (g.1 0 5) i ((g.2.2.2.2.2 12) o) (o + 1) m 0 L := by
      obtain ⟨q1, q2, q3, q4, q5, q6, q7, q8, q9, q10, q11, q12, q13, q14, -⟩ := hcl2
      exact ⟨q1, q2, q3, q4, q5, q6, q7, q8, q9, q10, q11, q12, q13, q14, upN_s _ _ _⟩
    obtain ⟨g', xA, hA', z1, z2, z3, z4, z5, z6, z7, z8, z9, z10, z11⟩ := new_remote (r' := kqR rr (g.1 0 5) L) (o := o) (cm := m) (ou := 0) (i := i) hw2 hn ho hm hi (fun z => he z.symm) (Nat.zero_le _) w1 w2 (clx_t clx_kq hcx) (cl1_t (cl1_kq hL2) hc1) hcl3 hmv (fun z => absurd rfl z) hkq (w3 0 (by omega)) (w3 1 (by omega)) ⟨ag, bb, p5, p6, w3 2 (by omega), by rw [hrm _ (by decide) (by decide) (by decide) (by decide)]; exact p8⟩ (by
      rw [hc.2.1, hrm 80 (by decide) (by decide) (by decide) (by decide), hrm 86 (by decide) (by decide) (by decide) (by decide)]
      have : (List.range (g.1 0 0)).map (fun a => (r.2.2.1 86) (3 * (8 * (g.2.2.2.2.2 13) o + m) + a)) = (List.range (g.1 0 0)).map ((r.2.2.1 91)) := List.map_congr_left (fun k hk => (hc.2.2 k (Nat.zero_le _) (List.mem_range.mp hk)).symm)
      rw [this]
      exact w4)
    obtain ⟨f1, f2, f3, f4, f5, f6, f7, f8, ⟨f9, f10, f11, f12, f13⟩, f14, f15⟩ := z2
    -- the hand is emptied
    obtain ⟨l1, l2, l3, l4, l5, l6⟩ := hand_l hw2
    have hx1 : xA.2 1 = xw.2 1 := z7 1 (by decide)
    have hel : (hA'.2.2 (xA.2 1)).1 = 24 ∨ (g.1 0 0) = 0 := by
      rcases l3 with q | q
      · exact Or.inr q.2
      · left
        rw [hx1, z9 _ l4 (Or.inr q.2)]
        exact l5
    have hel2 : (g.1 0 0) ≤ (hA'.2.2 (xA.2 1)).2.1 := by
      rcases l3 with q | q
      · omega
      · rw [hx1, z9 _ l4 (Or.inr q.2)]
        exact l6
    have hne1 : xA.2 1 ≠ (hvH h (g.1 0 0) ((g.1 1)) (g.1 0 0)).1 := by rw [hx1]; omega
    have hne2 : xA.2 1 ≠ hA'.1 := by rw [hx1]; omega
    have gnh : (g'.1 0 0) = (g.1 0 0) := f5 0 (by decide)
    have hcl := fun d r0 Q => x_clear (d := d) (r0 := r0) (x := xA) (h := hA') (n := (g.1 0 0)) (Q := Q) (by omega) (by omega) (by rw [z8 19 2 (by decide)]; exact l2) (by rw [hx1]; exact l3.imp id (fun q => q.1)) (by rw [hx1]; omega) (fun q => hel.resolve_right q) hel2
    have hwC := clear_w z1 (nuF (hA'.2.2 (xA.2 1)).2.2 (g.1 0 0)) (fun q => by
      have q0 : (g.1 0 0) = 0 := by
        rcases l3 with q1 | q1
        · exact q1.2
        · omega
      rw [hs_o _ _ hne1, hn_o _ _ _ hne2, q0, nuF_0])
    rw [← hC_new hne1 hne2] at hwC
    have hwr := fun d r0 Q => x_written (d := d) (r0 := r0) (x := clX xA) (h := hC hA' (xA.2 1) (nuF (hA'.2.2 (xA.2 1)).2.2 (g.1 0 0))) (L := L) (Q := Q) (show 146 ≤ hA'.1 by omega) (by
      unfold clX
      rw [tI_ne _ _ (by omega), tI_ne _ _ (by omega), z8 70 1 (by decide)]
      exact w1.2.2.1) hL2
    rw [byt_cl] at hwr
    have hnc' : (gL g' 0 0 0).1 0 5 = (g.1 0 5) + 1 := f1
    have hcN : (gL g' 0 0 0).1 6 (g.1 0 5) = (hvH h (g.1 0 0) ((g.1 1)) (g.1 0 0)).1 := f2
    obtain ⟨gF, rF, xF, hF, q1', q2', q3', q4', q5', q6', q7', ⟨q8', q9'⟩, q10', q11'⟩ := snd_req (c := (g.1 0 5)) hwC (by rw [hnc']; omega) (by
      show (g'.2.2.2.2.2 14) (g.1 0 5) ≠ (g'.2.2.2.2.2 15) (g.1 0 5)
      rw [f9, f10]
      exact fun z => he z.symm)
    rw [hcN] at q8' q9' q10'
    have hFl : hF.1 = hA'.1 + 1 := by rw [q5', hs_1, hn_1]; rfl
    have hFu : hF.2.1 = hA'.2.1 + L := by rw [q6', hs_u, hn_u]; rfl
    have hrun3 : ∀ d (H : pheap) Q, 146 ≤ H.1 → Go (d + 5) 251 0 [.ref 73, .int (nI (g.1 0 5))] [] (putR (kqR (sI rr 30 0) (g.1 0 5) L) H) Q = Q none (putR rF H) := q11'
    have hms' : (sI rr 30 0).1 81 = nI L := hms
    have hcK : ((hC hA' (xA.2 1) (nuF (hA'.2.2 (xA.2 1)).2.2 (g.1 0 0))).2.2 (hvH h (g.1 0 0) ((g.1 1)) (g.1 0 0)).1).1 = 3 := by rw [hC_o _ (Ne.symm hne1)]; exact z6
    have hK1 : (hC hA' (xA.2 1) (nuF (hA'.2.2 (xA.2 1)).2.2 (g.1 0 0))).1 = hA'.1 := rfl
    generalize hC hA' (xA.2 1) (nuF (hA'.2.2 (xA.2 1)).2.2 (g.1 0 0)) = hK at *
    generalize hvH h (g.1 0 0) ((g.1 1)) (g.1 0 0) = hV at *
    refine same_of (v := some (.int (nI (g.1 0 5)))) (w_up q4') (fun d Q => ?_) (fun d H Q hH => ?_) (by omega) (by omega)
    · rw [hX d r Q]
      have e1 := fun Q => esz (d + 98) r Q
      have e2 := fun Q => y4 (d + 68) r Q
      rw [w1.1, if_pos rfl] at e2
      have e3 := fun Q => z10 (d + 91) r Q
      rw [if_pos rfl, pv_0] at e3
      have e4 := fun Q => hcl (d + 98) r Q
      have e5 := fun Q => hwr (d + 98) r Q
      have e6 := fun Q => q10' (d + 93) r Q
      rw [hK1] at e5
      have hhV : 146 ≤ hV.1 := by omega
      have hhA : 146 ≤ hA'.1 := by omega
      have hhK : 146 ≤ hK.1 := by omega
      have hhF : 146 ≤ hF.1 := by omega
      have ha1 : hV.1 ≠ hK.1 := by omega
      have ha2 : hV.1 < hF.1 := by omega
      simp (disch := first | exact c1_i _ | exact c1_r _ | exact c1_n | exact c1_m | omega | assumption | (simp only [hn_1, hs_1, hC_1]; omega) | (apply ac_l; omega) | (apply ac_r; omega) | decide | exact Or.inl rfl) only [e_85_85, e_85_85n, e_85_87, e_85_90, e_85_90n, e_85_92, e_85_92nr, e_85_92rn, e_85_92nn, e_85_95, e_85_96, e_85_99, e_85_100, e_85_102, e_85_102n, e_85_103, e_85_106, e_85_109, e_85_111, e_85_114, e_85_116, e_85_119, e_85_119n, e_85_120, e_85_120n, e_85_122, e_85_122n, e_85_124, e_85_125, e_85_125n, e_85_127, e_85_130, e_85_133, e_85_135, e_85_136, e_85_136n, e_85_137, e_85_137n, e_85_139, e_85_139n, e_85_141, e_85_144, e_85_144n, e_85_146, e_85_147, e_85_148, e_85_151, e_85_151n, e_85_153, e_85_153n, e_85_154, e_85_157, e_85_160, e_85_162, e_85_165, e_85_165n, e_85_167, e_85_167n, e_85_168, e_85_171, e_85_174, e_85_177, e_85_177n, e_85_178, e_85_178n, e_85_180, e_85_183, e_85_186, e_85_186n, e_85_187, e_85_187n, e_85_189, e_85_189n, e_85_191, e_85_194, e_85_194n, e_85_196, e_85_199, Option.toList_some, Option.toList_none, List.cons_append, List.nil_append, catS_cons, catS_nil, cat_int, cat_long, cat_ref, cat_null, c1_i, c1_r, c1_n, c1_m, true_and, and_true, and_self, putR_1, putR_u, eq_self, Nat.reduceLT, Nat.reduceLeDiff, Nat.reduceAdd, Nat.reduceEqDiff, vk_i, vk_l, vk_r, vk_n, vk_0, vk_1, if_true, if_false, not_true_eq_false, not_false_eq_true, false_and, and_false, ne_eq, true_or, or_true, ite_not, reduceCtorEq, putX_1, putX_u, putX_hi, hset_Xhi, px_5, xf_5_0, xf_5_1, xI_5_1, xf_5_2, xR_0, xf_5_3, xI_5_3, xf_5_4, xI_5_4, xf_5_5, xf_5_6, xI_5_6, xf_5_7, xf_5_8, xf_5_9, xf_5_10, xf_5_11, xf_5_12, xf_5_13, xf_5_14, xf_5_15, xI_5_15, px_6, xA_6, px_18, xA_18, px_19, xf_19_0, xI_19_0, xf_19_1, xR_1, xf_19_2, xI_19_2, px_20, xf_20_0, xI_20_0, xf_20_1, xR_2, xf_20_2, xI_20_2, px_21, xf_21_0, xI_21_0, xf_21_1, xR_3, xf_21_2, xI_21_2, px_22, xf_22_0, xI_22_0, xf_22_1, xR_4, xf_22_2, xI_22_2, px_23, xf_23_0, xI_23_0, xf_23_1, xR_5, xf_23_2, xI_23_2, px_24, xf_24_0, xI_24_0, xf_24_1, xR_6, xf_24_2, xI_24_2, px_25, xf_25_0, xI_25_0, xf_25_1, xI_25_1, xf_25_2, xf_25_3, xI_25_3, xf_25_4, xf_25_5, xf_25_6, px_26, xA_26, px_27, px_28, xA_28, px_29, xA_29, px_30, xA_30, px_31, xA_31, px_32, xA_32, px_33, xA_33, px_34, xA_34, px_35, xA_35, px_36, xA_36, px_37, xA_37, px_38, xA_38, px_39, xA_39, px_40, xA_40, px_41, xA_41, px_42, xA_42, px_43, xA_43, px_44, xA_44, px_45, xA_45, px_46, xA_46, px_47, xA_47, px_48, xA_48, px_49, xA_49, px_50, xA_50, px_51, xA_51, px_52, xA_52, px_53, xA_53, px_54, xA_54, px_55, xA_55, px_56, xA_56, px_57, xA_57, px_58, xA_58, px_59, xA_59, px_60, xA_60, px_61, xA_61, px_62, xA_62, px_63, xA_63, px_64, xA_64, px_65, xA_65, px_66, xA_66, px_67, xA_67, px_68, xA_68, px_69, xA_69, px_70, xf_70_0, xI_70_0, xf_70_1, xI_70_1, xf_70_2, xI_70_2, xf_70_3, xf_70_4, px_71, xA_71, px_72, xA_72, ni_ixL, ni_clL, ni_add, ni_mul, ni_lt, ni_le, ni_eq, ni_clamp, ni_ix, ni_lt0, ni_0le, ni_ltL, ni_Llt, ni_leL, ni_Lle, ni_eqL, ni_addL, ni_Ladd, ni_mulL, ni_Lmul, ni_subL, ni_sub, ni_Lsub, le_t, le_f, lt_t, lt_f, eq_f, il_lt, il_l0, il_g0, il_l1, il_g1, il_l2, il_g2, il_l3, il_g3, il_l4, il_g4, il_l5, il_g5, il_l7, il_g7, il_l8, il_g8, il_l9, il_g9, il_l10, il_g10, il_l15, il_g15, il_l20, il_g20, il_l23, il_g23, il_l24, il_g24, il_l60, il_g60, il_l100, il_g100, il_l999, il_g999, il_l1000, il_g1000, putR_lo, hset_lo, putR_lt hh, rd_hi, wr_hi, hs_1, hs_s, hs_o, uv_s, uv_o, pv_0, pv_n, i1_0, bs_0, bs_1, im_lt, im_ge, im_eq, ni_em, nw_hi, hn_1, hn_s, hn_o, ni_Ll0, putR_lt hhV, putR_lt hhA, putR_lt hhK, putR_lt hhF, t, q1, hhost, e1, e2, e3, e4, e5, hcK, e6, q8', q9']
    · have hh := hH
      have hn60 : ¬ (g.1 0 5) = 60 := by omega
      have e2 := fun Q => y5 (d + 94) H Q hH
      have e2' : ∀ Q, Go (d + 94 + 5) 223 0 [.ref 73, .int (nI i), .int (nI o), .int (nI m), .int 0, mk0, mk0] [] (putR r H) Q = Q none (putR rw' H) := e2
      have e3 := w1.2.1
      have e4 := fun Q => r_keep (d := d + 98) (r := sI rr 30 0) (h := H) (n := (g.1 0 5)) (L := L) (Q := Q) hH hn hms' hL2
      have e5 := fun Q => hrun3 (d + 94) H Q hH
      rw [hM (d + 94) H Q hH, if_neg he]
      have st : Go (d + 94 + 6) 222 165 (clL g i o m 0 1 (.int y) mk0) [] (putR r H) Q = Go (d + 100) 222 209 (clL g i o m 0 1 (.int y) mk0) [] (putR rw' H) Q := by
        unfold clL
        simp (disch := first | exact c1_i _ | exact c1_r _ | exact c1_n | exact c1_m | omega | assumption | (apply ac_l; omega) | (apply ac_r; omega) | decide | exact Or.inl rfl) only [e_222_165, e_222_167, e_222_170, e_222_173, e_222_174, e_222_174n, e_222_175, e_222_178, e_222_180, e_222_183, e_222_185, e_222_186, e_222_188, e_222_191, e_222_191n, e_222_192, e_222_193, e_222_194, e_222_195, e_222_196, e_222_199, e_222_199n, e_222_200, e_222_203, e_222_206, e_222_208, Option.toList_some, Option.toList_none, List.cons_append, List.nil_append, catS_cons, catS_nil, cat_int, cat_long, cat_ref, cat_null, c1_i, c1_r, c1_n, c1_m, true_and, and_true, and_self, putR_1, putR_u, eq_self, Nat.reduceLT, Nat.reduceLeDiff, Nat.reduceAdd, Nat.reduceEqDiff, vk_i, vk_l, vk_r, vk_n, vk_0, vk_1, if_true, if_false, not_true_eq_false, not_false_eq_true, false_and, and_false, ne_eq, true_or, or_true, ite_not, reduceCtorEq, pr_73, pr_74, pr_75, pr_76, pr_77, pr_78, pr_79, pr_80, pr_81, pr_82, pr_83, pr_84, pr_85, pr_86, pr_87, pr_88, pr_89, pr_90, pr_91, pr_92, pr_93, pr_94, pr_95, pr_96, pr_97, pr_98, pr_99, pr_100, pr_101, pr_102, pr_103, pr_104, pr_105, pr_106, pr_107, pr_108, pr_109, pr_110, pr_111, pr_112, pr_113, pr_114, pr_115, pr_116, pr_117, pr_118, pr_119, pr_120, pr_121, pr_122, pr_123, pr_124, pr_125, pr_126, pr_127, pr_128, pr_129, pr_130, pr_131, pr_132, pr_133, pr_134, pr_135, pr_136, pr_137, pr_138, pr_139, pr_140, pr_141, pr_142, pr_143, pr_144, pr_145, rf_0, rf_1, hI_1, rf_2, hI_2, rf_3, hI_3, rf_4, hI_4, rf_5, hI_5, rf_6, hI_6, rf_7, hI_7, rf_8, rf_9, rf_10, rf_11, hI_11, rf_12, rf_13, rf_14, rf_15, rf_16, hI_16, rf_17, rf_18, rf_19, rf_20, rf_21, rf_22, rf_23, hI_23, rf_24, rf_25, rf_26, rf_27, rf_28, hI_28, rf_29, rf_30, hI_30, rf_31, rf_32, hI_32, rf_33, hI_33, rf_34, rf_35, rf_36, rf_37, rf_38, rf_39, rf_40, rf_41, hI_41, rf_42, rf_43, rf_44, rf_45, rf_46, rf_47, rf_48, rf_49, rf_50, hI_50, rf_51, rf_52, rf_53, rf_54, rf_55, rf_56, rf_57, hI_57, rf_58, rf_59, rf_60, rf_61, rf_62, rf_63, rf_64, rf_65, rf_66, rf_67, rf_68, rf_69, rf_70, rf_71, rf_72, rf_73, rf_74, rf_75, hI_75, rf_76, rf_77, rf_78, hI_78, rf_79, rf_80, rf_81, hI_81, rf_82, hI_82, rf_83, rf_84, hI_84, rf_85, rf_86, rf_87, hI_87, rf_88, hI_88, rf_89, hI_89, rf_90, hI_90, rf_91, rf_92, rf_93, rf_94, hI_94, rf_95, hI_95, rf_96, rf_97, rf_98, rf_99, rf_100, hset_W, hA_74, hL_75, hA_76, hL_77, hA_78, hL_79, hA_80, hL_81, hA_82, hL_83, hA_84, hA_85, hA_86, hL_87, hA_88, hA_89, hA_90, hA_91, hA_92, hA_93, hA_94, hA_95, hA_96, hA_97, hA_98, hA_99, hA_100, hA_101, hA_102, hA_103, hA_104, hA_105, hL_106, hA_107, hA_108, hA_109, hA_110, hA_111, hA_112, hA_113, hA_114, hA_115, hA_116, hA_117, hA_118, hA_119, hA_120, hA_121, hA_122, hA_123, hA_124, hA_125, hA_126, hA_127, hA_128, hA_129, hA_130, hA_131, hA_132, hA_133, hA_134, hA_135, hA_136, hA_137, hA_138, hA_139, hA_140, hA_141, hA_142, hA_143, hA_144, hA_145, ni_ixL, ni_clL, ni_add, ni_mul, ni_lt, ni_le, ni_eq, ni_clamp, ni_ix, ni_lt0, ni_0le, ni_ltL, ni_Llt, ni_leL, ni_Lle, ni_eqL, ni_addL, ni_Ladd, ni_mulL, ni_Lmul, ni_subL, ni_sub, ni_Lsub, le_t, le_f, lt_t, lt_f, eq_f, il_lt, il_l0, il_g0, il_l1, il_g1, il_l2, il_g2, il_l3, il_g3, il_l4, il_g4, il_l5, il_g5, il_l7, il_g7, il_l8, il_g8, il_l9, il_g9, il_l10, il_g10, il_l15, il_g15, il_l20, il_g20, il_l23, il_g23, il_l24, il_g24, il_l60, il_g60, il_l100, il_g100, il_l999, il_g999, il_l1000, il_g1000, r_in, putR_lt hh, sA_1, sA_s, i1_0, bs_0, bs_1, im_lt, im_ge, im_eq, ni_em, c1, hn60, e2', e3]
      rw [st, hrunC d H Q hH]
      unfold clL
      simp (disch := first | exact c1_i _ | exact c1_r _ | exact c1_n | exact c1_m | omega | assumption | (apply ac_l; omega) | (apply ac_r; omega) | decide | exact Or.inl rfl) only [e_222_259, e_222_259n, e_222_260, e_222_261, e_222_264, e_222_266, e_222_269, e_222_269n, e_222_270, e_222_272, e_222_275, e_222_278, e_222_278n, e_222_279, e_222_281, e_222_284, e_222_284n, e_222_285, e_222_287, e_222_290, e_222_292, Option.toList_some, Option.toList_none, List.cons_append, List.nil_append, catS_cons, catS_nil, cat_int, cat_long, cat_ref, cat_null, c1_i, c1_r, c1_n, c1_m, true_and, and_true, and_self, putR_1, putR_u, eq_self, Nat.reduceLT, Nat.reduceLeDiff, Nat.reduceAdd, Nat.reduceEqDiff, vk_i, vk_l, vk_r, vk_n, vk_0, vk_1, if_true, if_false, not_true_eq_false, not_false_eq_true, false_and, and_false, ne_eq, true_or, or_true, ite_not, reduceCtorEq, pr_73, pr_74, pr_75, pr_76, pr_77, pr_78, pr_79, pr_80, pr_81, pr_82, pr_83, pr_84, pr_85, pr_86, pr_87, pr_88, pr_89, pr_90, pr_91, pr_92, pr_93, pr_94, pr_95, pr_96, pr_97, pr_98, pr_99, pr_100, pr_101, pr_102, pr_103, pr_104, pr_105, pr_106, pr_107, pr_108, pr_109, pr_110, pr_111, pr_112, pr_113, pr_114, pr_115, pr_116, pr_117, pr_118, pr_119, pr_120, pr_121, pr_122, pr_123, pr_124, pr_125, pr_126, pr_127, pr_128, pr_129, pr_130, pr_131, pr_132, pr_133, pr_134, pr_135, pr_136, pr_137, pr_138, pr_139, pr_140, pr_141, pr_142, pr_143, pr_144, pr_145, rf_0, rf_1, hI_1, rf_2, hI_2, rf_3, hI_3, rf_4, hI_4, rf_5, hI_5, rf_6, hI_6, rf_7, hI_7, rf_8, rf_9, rf_10, rf_11, hI_11, rf_12, rf_13, rf_14, rf_15, rf_16, hI_16, rf_17, rf_18, rf_19, rf_20, rf_21, rf_22, rf_23, hI_23, rf_24, rf_25, rf_26, rf_27, rf_28, hI_28, rf_29, rf_30, hI_30, rf_31, rf_32, hI_32, rf_33, hI_33, rf_34, rf_35, rf_36, rf_37, rf_38, rf_39, rf_40, rf_41, hI_41, rf_42, rf_43, rf_44, rf_45, rf_46, rf_47, rf_48, rf_49, rf_50, hI_50, rf_51, rf_52, rf_53, rf_54, rf_55, rf_56, rf_57, hI_57, rf_58, rf_59, rf_60, rf_61, rf_62, rf_63, rf_64, rf_65, rf_66, rf_67, rf_68, rf_69, rf_70, rf_71, rf_72, rf_73, rf_74, rf_75, hI_75, rf_76, rf_77, rf_78, hI_78, rf_79, rf_80, rf_81, hI_81, rf_82, hI_82, rf_83, rf_84, hI_84, rf_85, rf_86, rf_87, hI_87, rf_88, hI_88, rf_89, hI_89, rf_90, hI_90, rf_91, rf_92, rf_93, rf_94, hI_94, rf_95, hI_95, rf_96, rf_97, rf_98, rf_99, rf_100, hset_W, hA_74, hL_75, hA_76, hL_77, hA_78, hL_79, hA_80, hL_81, hA_82, hL_83, hA_84, hA_85, hA_86, hL_87, hA_88, hA_89, hA_90, hA_91, hA_92, hA_93, hA_94, hA_95, hA_96, hA_97, hA_98, hA_99, hA_100, hA_101, hA_102, hA_103, hA_104, hA_105, hL_106, hA_107, hA_108, hA_109, hA_110, hA_111, hA_112, hA_113, hA_114, hA_115, hA_116, hA_117, hA_118, hA_119, hA_120, hA_121, hA_122, hA_123, hA_124, hA_125, hA_126, hA_127, hA_128, hA_129, hA_130, hA_131, hA_132, hA_133, hA_134, hA_135, hA_136, hA_137, hA_138, hA_139, hA_140, hA_141, hA_142, hA_143, hA_144, hA_145, ni_ixL, ni_clL, ni_add, ni_mul, ni_lt, ni_le, ni_eq, ni_clamp, ni_ix, ni_lt0, ni_0le, ni_ltL, ni_Llt, ni_leL, ni_Lle, ni_eqL, ni_addL, ni_Ladd, ni_mulL, ni_Lmul, ni_subL, ni_sub, ni_Lsub, le_t, le_f, lt_t, lt_f, eq_f, il_lt, il_l0, il_g0, il_l1, il_g1, il_l2, il_g2, il_l3, il_g3, il_l4, il_g4, il_l5, il_g5, il_l7, il_g7, il_l8, il_g8, il_l9, il_g9, il_l10, il_g10, il_l15, il_g15, il_l20, il_g20, il_l23, il_g23, il_l24, il_g24, il_l60, il_g60, il_l100, il_g100, il_l999, il_g999, il_l1000, il_g1000, r_in, putR_lt hh, sA_1, sA_s, i1_0, bs_0, bs_1, im_lt, im_ge, im_eq, ni_em, e4, e5]
end
