section
variable {K : Nat → pcell} {tb : Nat} {g g' g0 g1 g2 : gS} {r r' r0 v v' R ra s' s : rS} {x x' x0 x1 xb : xS} {h h' h0 h1 : pheap} {d : Nat} {Q : Option Value → pheap → Prop} {a n k m rc b L n0 p q j t c c2 c3 no A ce ce0 Dn N i ar sa o sv mm va ta D ou : Nat} {F fs sr w V : Nat → Int32} {l l' lF : List Nat} {z e w0 w1 w2 w3 w4 : Int32} {os fc as nd : Nat → Nat} {u : Int64} {P G : Nat → Prop}
theorem rg_0 (hr : (s.1 88) = nI n) : sA s 131 c 0 = rgR s c n (nI 0) ((s.2.2.1 132)) := by
  have e : raT s n = s := by
    show sI s 88 (nI n) = _
    rw [← hr]
    unfold sI
    rw [upN_i]
  unfold rgR
  rw [e]
  show _ = sR (sA s 131 c 0) 132 ((sA s 131 c 0).2.2.1 132)
  unfold sR
  rw [upN_i]
/-- an answer with a value -/
theorem tans_val (hw : World K tb g r x h) (hc : c < (g.1 0 5)) (hl : (g.2.2.2.2.2 14) c ≠ (g.2.2.2.2.2 15) c) (h0 : (r.2.2.1 118) c = 0) (hic : (g.2.2.2.2.2 23) (60 + c) = b) (hb : b ≠ 0) (hr : RD h b L F) (h5 : (h.2.2 b).2.2 5 = .int (nI 1)) (h2 : (h.2.2 b).2.2 2 = .int 0) (hmr : MR r A L F 1) (hp : prs ((g.2.2.2.2.2 8)) ((r.2.2.1 80)) ((g.2.2.2.2.2 13)) (g.1 0 4) F n [eSort g r c] 1 [] = some (L, l')) : TN K tb r x h 107 61 (fun ls => ∃ Z7 Z8, ls = [.ref 5, .ref ((g.1 6) c), .ref b, .long 0, mk0, .null, .null, Z7, Z8]) (fun ls => ∃ V4 V5 V6 V7, ls = [.ref 73, .int (nI c), .int (nI ((g.2.2.2.2.2 14) c)), .int 0, V4, V5, V6, V7]) := by
  have hh := sim_146 hw.1
  obtain ⟨n1, n2, n3⟩ := w_nc hw
  obtain ⟨nn1, nn2, nn3⟩ := w_nn hw
  have nd2 := (w_nd hw).2.1
  obtain ⟨u1, u2, u3, u4, u5, u6, u7, u8, u9, u10, u11, u12, u13, u14, u15, u16, -⟩ := w_cal hw c hc
  obtain ⟨a1, a2, ⟨t, q0, q1, q2, q3, q4, q5, q6, q7, q8, q9, q10, q11, q12, q13, q14, q15, q16⟩⟩ := s_cal hw.1 hc
  have hF : ∀ k, k < L → isB (F k) := fun k hk => (hr.2.2.2.2.2.2.2.2 k hk).2
  have hsrt := es_srt hw hc
  obtain ⟨e, he⟩ : ∃ e, e = eSort g r c := ⟨_, rfl⟩
  rw [← he] at hp hsrt
  have t0 := sim_top hw.1 (Nat.le_refl h.1)
  have hwN : World K tb g r x (hnew h 20 1 (fun _ => dflA 20)) := ⟨sim_new hw.1 _ _ _, hw.2⟩
  have hwH : World K tb g r x (hset (hnew h 20 1 (fun _ => dflA 20)) h.1 0 (.int e)) := ⟨sim_junk hwN.1 t0 hh _ _, hw.2⟩
  have H1 : (hset (hnew h 20 1 (fun _ => dflA 20)) h.1 0 (.int e)).1 = h.1 + 1 := rfl
  have H2 : (hset (hnew h 20 1 (fun _ => dflA 20)) h.1 0 (.int e)).2.1 = h.2.1 + 1 := rfl
  have H3 : (hset (hnew h 20 1 (fun _ => dflA 20)) h.1 0 (.int e)).2.2 h.1 = (20, 1, updV (fun _ => dflA 20) 0 (.int e)) := by rw [hs_s, hn_s]
  have H4 : ∀ a, a ≠ h.1 → (hset (hnew h 20 1 (fun _ => dflA 20)) h.1 0 (.int e)).2.2 a = h.2.2 a := fun a ha => by rw [hs_o _ _ ha, hn_o _ _ _ ha]
  have e107 : ∀ d r0 Q Z7 Z8, Go (d + 3) 150 107 [.ref 5, .ref ((g.1 6) c), .ref b, .long 0, mk0, .null, .null, Z7, Z8] [] (putR r0 (putX x h)) Q = Go (d + 3) 150 120 [.ref 5, .ref ((g.1 6) c), .ref b, .long 0, mk0, .null, .null, .ref h.1, Z8] [] (putR r0 (putX x (hset (hnew h 20 1 (fun _ => dflA 20)) h.1 0 (.int e)))) Q := fun d r0 Q Z7 Z8 => by
    have x1 := fun Q => x_as (d := d) (r0 := r0) (Q := Q) hwN hc
    rw [← he] at x1
    simp (disch := first | exact c1_i _ | exact c1_r _ | exact c1_n | exact c1_m | omega | assumption | (simp only [hn_1, hs_1, hC_1]; omega) | (apply ac_l; omega) | (apply ac_r; omega) | decide | exact Or.inl rfl) only [e_150_107, e_150_108, e_150_110, e_150_111, e_150_112, e_150_112n, e_150_113, e_150_113n, e_150_114, e_150_117, e_150_118, e_150_118n, Option.toList_some, Option.toList_none, List.cons_append, List.nil_append, catS_cons, catS_nil, cat_int, cat_long, cat_ref, cat_null, c1_i, c1_r, c1_n, c1_m, true_and, and_true, and_self, putR_1, putR_u, eq_self, Nat.reduceLT, Nat.reduceLeDiff, Nat.reduceAdd, Nat.reduceEqDiff, vk_i, vk_l, vk_r, vk_n, vk_0, vk_1, if_true, if_false, not_true_eq_false, not_false_eq_true, false_and, and_false, ne_eq, true_or, or_true, ite_not, reduceCtorEq, putX_1, putX_u, putX_hi, hset_Xhi, px_5, xf_5_0, xf_5_1, xI_5_1, xf_5_2, xR_0, xf_5_3, xI_5_3, xf_5_4, xI_5_4, xf_5_5, xf_5_6, xI_5_6, xf_5_7, xf_5_8, xf_5_9, xf_5_10, xf_5_11, xf_5_12, xf_5_13, xf_5_14, xf_5_15, xI_5_15, px_6, xA_6, px_18, xA_18, px_19, xf_19_0, xI_19_0, xf_19_1, xR_1, xf_19_2, xI_19_2, px_20, xf_20_0, xI_20_0, xf_20_1, xR_2, xf_20_2, xI_20_2, px_21, xf_21_0, xI_21_0, xf_21_1, xR_3, xf_21_2, xI_21_2, px_22, xf_22_0, xI_22_0, xf_22_1, xR_4, xf_22_2, xI_22_2, px_23, xf_23_0, xI_23_0, xf_23_1, xR_5, xf_23_2, xI_23_2, px_24, xf_24_0, xI_24_0, xf_24_1, xR_6, xf_24_2, xI_24_2, px_25, xf_25_0, xI_25_0, xf_25_1, xI_25_1, xf_25_2, xf_25_3, xI_25_3, xf_25_4, xf_25_5, xf_25_6, px_26, xA_26, px_27, px_28, xA_28, px_29, xA_29, px_30, xA_30, px_31, xA_31, px_32, xA_32, px_33, xA_33, px_34, xA_34, px_35, xA_35, px_36, xA_36, px_37, xA_37, px_38, xA_38, px_39, xA_39, px_40, xA_40, px_41, xA_41, px_42, xA_42, px_43, xA_43, px_44, xA_44, px_45, xA_45, px_46, xA_46, px_47, xA_47, px_48, xA_48, px_49, xA_49, px_50, xA_50, px_51, xA_51, px_52, xA_52, px_53, xA_53, px_54, xA_54, px_55, xA_55, px_56, xA_56, px_57, xA_57, px_58, xA_58, px_59, xA_59, px_60, xA_60, px_61, xA_61, px_62, xA_62, px_63, xA_63, px_64, xA_64, px_65, xA_65, px_66, xA_66, px_67, xA_67, px_68, xA_68, px_69, xA_69, px_70, xf_70_0, xI_70_0, xf_70_1, xI_70_1, xf_70_2, xI_70_2, xf_70_3, xf_70_4, px_71, xA_71, px_72, xA_72, ni_ixL, ni_clL, ni_add, ni_mul, ni_lt, ni_le, ni_eq, ni_clamp, ni_ix, ni_lt0, ni_0le, ni_ltL, ni_Llt, ni_leL, ni_Lle, ni_eqL, ni_addL, ni_Ladd, ni_mulL, ni_Lmul, ni_subL, ni_sub, ni_Lsub, le_t, le_f, lt_t, lt_f, eq_f, il_lt, il_l0, il_g0, il_l1, il_g1, il_l2, il_g2, il_l3, il_g3, il_l4, il_g4, il_l5, il_g5, il_l7, il_g7, il_l8, il_g8, il_l9, il_g9, il_l10, il_g10, il_l15, il_g15, il_l20, il_g20, il_l23, il_g23, il_l24, il_g24, il_l60, il_g60, il_l100, il_g100, il_l999, il_g999, il_l1000, il_g1000, putR_lo, hset_lo, putR_lt hh, rd_hi, wr_hi, hs_1, hs_s, hs_o, uv_s, uv_o, pv_0, pv_n, i1_0, bs_0, bs_1, im_lt, im_ge, im_eq, ni_em, nw_hi, hn_1, hn_s, hn_o, ni_Ll0, t, x1]
  generalize hset (hnew h 20 1 (fun _ => dflA 20)) h.1 0 (.int e) = H at *
  have hb2 := hr.2.1
  have hrH : RD H b L F := rd_c hr (by omega) (H4 b (by omega)) (H4 (b + 2) (by omega))
  obtain ⟨rD, e1, e2, e3, e4, e5⟩ := r_dry1 (D := nI ((g.2.2.2.2.2 14) c)) (r := cmR r 0) hw hF hp (Nat.le_refl _) sc_cm hmr rfl (by decide) hsrt
  have hscA : SC (cmR (raT rD (A + 1)) 0) r := sc_t sc_cm (sc_t sc_at e1)
  obtain ⟨ra, hra⟩ : ∃ ra, ra = cmR (raT (sA rD 118 c 1) (A + 1)) 0 := ⟨_, rfl⟩
  have hrelA : REL (fun _ => False) (fun _ => False) ((g.2.2.2.2.2 14) c) ra r := by
    rw [hra]
    exact rel_st (c := c) (z := 1) (rel_0 hscA)
  have hrsA : RSi ra A L F 1 (g.1 0 1) [] := by
    rw [hra]
    exact ⟨⟨rfl, e2.2.1, e2.2.2.1, e2.2.2.2⟩, rfl, fun i hi => absurd hi (by show ¬ i < 0; omega)⟩
  have hstA : ra.2.2.1 118 = upN ((r.2.2.1 118)) c 1 := by
    rw [hra]
    show upN (rD.2.2.1 118) c 1 = _
    rw [sc_row e1 118 (by decide)]
  have hnd := e1.1 32 (by decide) (by decide) (by decide) (by decide) (by decide) (by decide) (by decide) (by decide)
  rw [nn1] at hnd
  -- the reference, up to the two ways
  have e61 : ∀ d (H : pheap) Q V4 V5 V6 V7, 146 ≤ H.1 → Go (d + 6) 275 61 [.ref 73, .int (nI c), .int (nI ((g.2.2.2.2.2 14) c)), .int 0, V4, V5, V6, V7] [] (putR r H) Q = Go (d + 6) 275 93 [.ref 73, .int (nI c), .int (nI ((g.2.2.2.2.2 14) c)), .int 0, .int (nI (A + 1)), V5, V6, V7] [] (putR (sA rD 118 c 1) H) Q := fun d H Q V4 V5 V6 V7 hH => by
    have hh := hH
    have f1 := fun Q => r_as (d := d + 3) (h := H) (s := sI r 90 0) (Q := Q) hw hH hc rfl rfl rfl rfl
    rw [← he] at f1
    have f2 : ∀ Q, Go (d + 5) 273 0 [.ref 73, .int 784, .int e, .int (nI ((g.2.2.2.2.2 14) c)), .int 1, mk0, mk0, mk0, mk0, mk0, mk0, mk0, mk0] [] (putR (sI r 90 0) H) Q = Q none (putR rD H) := fun Q => e5 (d + 1) H Q hH
    have hat := hmr.1
    simp (disch := first | exact c1_i _ | exact c1_r _ | exact c1_n | exact c1_m | omega | assumption | (apply ac_l; omega) | (apply ac_r; omega) | decide | exact Or.inl rfl) only [e_275_61, e_275_61n, e_275_62, e_275_65, e_275_67, e_275_67n, e_275_68, e_275_69, e_275_72, e_275_72n, e_275_73, e_275_76, e_275_76n, e_275_77, e_275_78, e_275_81, e_275_82, e_275_83, e_275_86, e_275_86n, e_275_87, e_275_90, e_275_91, e_275_92, Option.toList_some, Option.toList_none, List.cons_append, List.nil_append, catS_cons, catS_nil, cat_int, cat_long, cat_ref, cat_null, c1_i, c1_r, c1_n, c1_m, true_and, and_true, and_self, putR_1, putR_u, eq_self, Nat.reduceLT, Nat.reduceLeDiff, Nat.reduceAdd, Nat.reduceEqDiff, vk_i, vk_l, vk_r, vk_n, vk_0, vk_1, if_true, if_false, not_true_eq_false, not_false_eq_true, false_and, and_false, ne_eq, true_or, or_true, ite_not, reduceCtorEq, pr_73, pr_74, pr_75, pr_76, pr_77, pr_78, pr_79, pr_80, pr_81, pr_82, pr_83, pr_84, pr_85, pr_86, pr_87, pr_88, pr_89, pr_90, pr_91, pr_92, pr_93, pr_94, pr_95, pr_96, pr_97, pr_98, pr_99, pr_100, pr_101, pr_102, pr_103, pr_104, pr_105, pr_106, pr_107, pr_108, pr_109, pr_110, pr_111, pr_112, pr_113, pr_114, pr_115, pr_116, pr_117, pr_118, pr_119, pr_120, pr_121, pr_122, pr_123, pr_124, pr_125, pr_126, pr_127, pr_128, pr_129, pr_130, pr_131, pr_132, pr_133, pr_134, pr_135, pr_136, pr_137, pr_138, pr_139, pr_140, pr_141, pr_142, pr_143, pr_144, pr_145, rf_0, rf_1, hI_1, rf_2, hI_2, rf_3, hI_3, rf_4, hI_4, rf_5, hI_5, rf_6, hI_6, rf_7, hI_7, rf_8, rf_9, rf_10, rf_11, hI_11, rf_12, rf_13, rf_14, rf_15, rf_16, hI_16, rf_17, rf_18, rf_19, rf_20, rf_21, rf_22, rf_23, hI_23, rf_24, rf_25, rf_26, rf_27, rf_28, hI_28, rf_29, rf_30, hI_30, rf_31, rf_32, hI_32, rf_33, hI_33, rf_34, rf_35, rf_36, rf_37, rf_38, rf_39, rf_40, rf_41, hI_41, rf_42, rf_43, rf_44, rf_45, rf_46, rf_47, rf_48, rf_49, rf_50, hI_50, rf_51, rf_52, rf_53, rf_54, rf_55, rf_56, rf_57, hI_57, rf_58, rf_59, rf_60, rf_61, rf_62, rf_63, rf_64, rf_65, rf_66, rf_67, rf_68, rf_69, rf_70, rf_71, rf_72, rf_73, rf_74, rf_75, hI_75, rf_76, rf_77, rf_78, hI_78, rf_79, rf_80, rf_81, hI_81, rf_82, hI_82, rf_83, rf_84, hI_84, rf_85, rf_86, rf_87, hI_87, rf_88, hI_88, rf_89, hI_89, rf_90, hI_90, rf_91, rf_92, rf_93, rf_94, hI_94, rf_95, hI_95, rf_96, rf_97, rf_98, rf_99, rf_100, hset_W, hA_74, hL_75, hA_76, hL_77, hA_78, hL_79, hA_80, hL_81, hA_82, hL_83, hA_84, hA_85, hA_86, hL_87, hA_88, hA_89, hA_90, hA_91, hA_92, hA_93, hA_94, hA_95, hA_96, hA_97, hA_98, hA_99, hA_100, hA_101, hA_102, hA_103, hA_104, hA_105, hL_106, hA_107, hA_108, hA_109, hA_110, hA_111, hA_112, hA_113, hA_114, hA_115, hA_116, hA_117, hA_118, hA_119, hA_120, hA_121, hA_122, hA_123, hA_124, hA_125, hA_126, hA_127, hA_128, hA_129, hA_130, hA_131, hA_132, hA_133, hA_134, hA_135, hA_136, hA_137, hA_138, hA_139, hA_140, hA_141, hA_142, hA_143, hA_144, hA_145, ni_ixL, ni_clL, ni_add, ni_mul, ni_lt, ni_le, ni_eq, ni_clamp, ni_ix, ni_lt0, ni_0le, ni_ltL, ni_Llt, ni_leL, ni_Lle, ni_eqL, ni_addL, ni_Ladd, ni_mulL, ni_Lmul, ni_subL, ni_sub, ni_Lsub, le_t, le_f, lt_t, lt_f, eq_f, il_lt, il_l0, il_g0, il_l1, il_g1, il_l2, il_g2, il_l3, il_g3, il_l4, il_g4, il_l5, il_g5, il_l7, il_g7, il_l8, il_g8, il_l9, il_g9, il_l10, il_g10, il_l15, il_g15, il_l20, il_g20, il_l23, il_g23, il_l24, il_g24, il_l60, il_g60, il_l100, il_g100, il_l999, il_g999, il_l1000, il_g1000, r_in, putR_lt hh, sA_1, sA_s, i1_0, bs_0, bs_1, im_lt, im_ge, im_eq, ni_em, hat, f1, f2]
  obtain ⟨g', x', h', ⟨y1, y2, y3⟩, y4, y5, y6⟩ := come_ok (b := b) (sa := h.1) (N := 1) (sr := fun _ => e) (ce0 := 543 + c) (Dn := (g.2.2.2.2.2 14) c) (ra := ra) (A := A) (j := 60 + c) hwH u2 (by omega) hic hb hrH (by rw [H4 b (by omega)]; exact h5) (by rw [H4 b (by omega)]; exact h2) ⟨hh, by omega, t0⟩ (by rw [H3]; exact ⟨rfl, rfl, fun k hk => by
    rw [show k = 0 by omega]
    dsimp only
    rw [uv_s]⟩) (by omega) (fun k hk => hsrt) hp (Nat.le_refl _) ⟨by omega, by omega⟩ hrelA hrsA
  obtain ⟨G1, G2, G3, G4, G5, G6, G7⟩ := y5
  have g1 : (g'.1 6) = (g.1 6) := G2 _ (by decide) (by decide)
  have g2 : (g'.1 4) = (g.1 4) := G2 _ (by decide) (by decide)
  have g3 : (g'.1 0 5) = (g.1 0 5) := G1 _ (by decide)
  have g4 : (g'.1 0 3) = (g.1 0 3) := G1 _ (by decide)
  have g5 : (g'.2.2.2.2.2 14) = (g.2.2.2.2.2 14) := G5 _ (by decide) (by decide)
  have g6 : (g'.2.2.2.2.2 15) = (g.2.2.2.2.2 15) := G5 _ (by decide) (by decide)
  have g7 : (g'.2.2.2.2.2 17) = (g.2.2.2.2.2 17) := G5 _ (by decide) (by decide)
  have g8 : (g'.2.2.2.2.2 13) = (g.2.2.2.2.2 13) := G5 _ (by decide) (by decide)
  have g9 : (g'.2.2.2.2.2 16) = (g.2.2.2.2.2 16) := G5 _ (by decide) (by decide)
  have g10 : (g'.2.2.2.2.2 18) = (g.2.2.2.2.2 18) := G5 _ (by decide) (by decide)
  have hc' : c < (g'.1 0 5) := by rw [g3]; exact hc
  have hl' : (g'.2.2.2.2.2 14) c ≠ (g'.2.2.2.2.2 15) c := by rw [g5, g6]; exact hl
  rcases y6 with ⟨z1, z2, z3⟩ | ⟨z1, v', ra', as, ⟨k1, k2, ⟨G', k3⟩, k4, k5, k6, k7, k8, k9, k10⟩, z3⟩
  · -- NODES lack
    have wD : World K tb g' rD x' h' := w_sc z2 e1
    have h0D : rD.2.2.1 118 c = 0 := by rw [sc_row e1 118 (by decide)]; exact h0
    have wE := w_lone (n := A + L) (i := (g.2.2.2.2.2 14) c) (nt := 903) wD hc' hl' h0D (by rw [g4]; exact u2)
    have hst : (rgR (sA rD 118 c 2) c (A + L) (nI 1) (w5F (rD.2.2.1 132) (60 * c + 5 * 0) 0 903 (nI ((g.2.2.2.2.2 14) c)) 0 0)).2.2.1 118 c = 2 := upN_s (rD.2.2.1 118) c 2
    have htm : (enG (gP g' h'.1 3 (0, 0, 0) (5, loF 903 ((g.2.2.2.2.2 14) c))) c 0 h'.1 1).2.2.2.2.2 32 c = 1 := upN_s ((g'.2.2.2.2.2 32)) c 1
    have htr : (enG (gP g' h'.1 3 (0, 0, 0) (5, loF 903 ((g.2.2.2.2.2 14) c))) c 0 h'.1 1).2.2.2.2.2 22 c = h'.1 := upN_s ((g'.2.2.2.2.2 22)) c h'.1
    obtain ⟨-, -, -, -, -, -, -, -, -, -, -, -, -, -, -, v16, -⟩ := w_cal wD c hc'
    have v5 := (wD.2.2.2.2.2.2 c hc').2.2.2.2.1
    have kn1 : 1 ≤ (g'.2.2.2.2.1 1) := wD.2.1.1.2.2.2.2.2.2.2.2.2.1.2.1
    obtain ⟨g2', r2, xx, h2', p1, ⟨p2, p3, p4⟩, p5, p6⟩ := tell_t wE hc' hst ⟨v16, v5 h0D⟩ (fun o ho => outer_ep (g := g') (r' := rgR (sA rD 118 c 2) c (A + L) (nI 1) (w5F (rD.2.2.1 132) (60 * c + 5 * 0) 0 903 (nI ((g.2.2.2.2.2 14) c)) 0 0)) wD hc' h0D ho (fun j hj => upN_n (rD.2.2.1 118) 2 hj) (by rw [hst]; decide) rfl rfl rfl) (by rw [htm]; exact Nat.le_refl _) (fun i hi => by
      rw [htm] at hi
      refine ⟨0, kn1, ?_⟩
      rw [show i = 0 by omega]
      exact w5_i (T := rD.2.2.1 132) (V := loF 903 ((g.2.2.2.2.2 14) c)) (p := 5 * 0) (q := 60 * c) (w0 := 0) (w1 := 903) (w2 := nI ((g.2.2.2.2.2 14) c)) (w3 := 0) (w4 := 0) (fun k hk => by omega) rfl rfl rfl rfl rfl 0 (by omega))
    have eh1 : (enH (lnH h' 903 ((g.2.2.2.2.2 14) c)) ((g'.1 6) c) 2 0 h'.1).1 = h'.1 + 1 := rfl
    have eh2 : (enH (lnH h' 903 ((g.2.2.2.2.2 14) c)) ((g'.1 6) c) 2 0 h'.1).2.1 = h'.2.1 + 5 := rfl
    rw [eh1] at p2 p3
    rw [eh2] at p4
    refine ⟨g2', r2, xx, h2', p1, ⟨by omega, by omega, by omega⟩, fun d r0 Q ls hls => ?_, fun d H' Q ls hls hH => ?_⟩
    · obtain ⟨Z7, Z8, rfl⟩ := hls
      have hh' := sim_146 z2.1
      obtain ⟨a1', a2', ⟨t', q0', q1', q2', q3', q4', q5', -⟩⟩ := s_cal z2.1 hc'
      have lo := lnH_o (h := h') (nt := 903) (i := (g.2.2.2.2.2 14) c) (k := (g'.1 6) c) (by omega)
      have x2 := fun Q => z3 (d + 8) r0 Q
      have x3 := fun Q => x_lone (d := d + 40) (r0 := r0) (nt := 903) (Q := Q) z2 (i := (g.2.2.2.2.2 14) c) (by rw [g4]; exact u2)
      have x4 := fun Q => p5 (d + 1) r0 Q
      rw [htr] at x4
      have x5 := x_175t (d := d + 41) (r0 := r0) (x := x') (x' := xx) (h := lnH h' 903 ((g.2.2.2.2.2 14) c)) (h' := h2') (a := (g'.1 6) c) (b := b) (u := 0) (ta := h'.1) (Q := Q) (ou := if (g'.2.2.2.2.2 18) c = 0 then 0 else (g'.1 6) ((g'.2.2.2.2.2 18) c - 1)) (Z7 := .ref h.1) (Z8 := .null) (by rw [lnH_1]; omega) a1' (by rw [lnH_1]; omega) (by rw [lo]; exact t') (by rw [lo]; exact q5') (by omega) x4
      rw [g1] at x5 t' q1' a1' a2'
      rw [g2] at x3
      rw [g2, g5] at q1'
      rw [e107 (d + 40)]
      have hHH : 146 ≤ H.1 := by omega
      have hcH : (H.2.2 ((g.1 6) c)).1 = 3 := by rw [H4 _ (by omega)]; exact t
      have hcH1 : (H.2.2 ((g.1 6) c)).2.2 1 = .ref ((g.1 4) ((g.2.2.2.2.2 14) c)) := by rw [H4 _ (by omega)]; exact q1
      have haH : (g.1 6) c < H.1 := by omega
      have st1 : Go (d + 40 + 3) 150 120 [.ref 5, .ref ((g.1 6) c), .ref b, .long 0, mk0, .null, .null, .ref h.1, Z8] [] (putR r0 (putX x H)) Q = Go (d + 40 + 3) 150 133 [.ref 5, .ref ((g.1 6) c), .ref b, .long 0, mk0, .null, .null, .ref h.1, .null] [] (putR r0 (putX x' h')) Q := by
        have hh := hHH
        simp (disch := first | exact c1_i _ | exact c1_r _ | exact c1_n | exact c1_m | omega | assumption | (apply ac_l; omega) | (apply ac_r; omega) | decide | exact Or.inl rfl) only [e_150_120, e_150_120n, e_150_121, e_150_121n, e_150_122, e_150_125, e_150_125n, e_150_126, e_150_126n, e_150_128, e_150_131, e_150_131n, Option.toList_some, Option.toList_none, List.cons_append, List.nil_append, catS_cons, catS_nil, cat_int, cat_long, cat_ref, cat_null, c1_i, c1_r, c1_n, c1_m, true_and, and_true, and_self, putR_1, putR_u, eq_self, Nat.reduceLT, Nat.reduceLeDiff, Nat.reduceAdd, Nat.reduceEqDiff, vk_i, vk_l, vk_r, vk_n, vk_0, vk_1, if_true, if_false, not_true_eq_false, not_false_eq_true, false_and, and_false, ne_eq, true_or, or_true, ite_not, reduceCtorEq, putX_1, putX_u, putX_hi, hset_Xhi, px_5, xf_5_0, xf_5_1, xI_5_1, xf_5_2, xR_0, xf_5_3, xI_5_3, xf_5_4, xI_5_4, xf_5_5, xf_5_6, xI_5_6, xf_5_7, xf_5_8, xf_5_9, xf_5_10, xf_5_11, xf_5_12, xf_5_13, xf_5_14, xf_5_15, xI_5_15, px_6, xA_6, px_18, xA_18, px_19, xf_19_0, xI_19_0, xf_19_1, xR_1, xf_19_2, xI_19_2, px_20, xf_20_0, xI_20_0, xf_20_1, xR_2, xf_20_2, xI_20_2, px_21, xf_21_0, xI_21_0, xf_21_1, xR_3, xf_21_2, xI_21_2, px_22, xf_22_0, xI_22_0, xf_22_1, xR_4, xf_22_2, xI_22_2, px_23, xf_23_0, xI_23_0, xf_23_1, xR_5, xf_23_2, xI_23_2, px_24, xf_24_0, xI_24_0, xf_24_1, xR_6, xf_24_2, xI_24_2, px_25, xf_25_0, xI_25_0, xf_25_1, xI_25_1, xf_25_2, xf_25_3, xI_25_3, xf_25_4, xf_25_5, xf_25_6, px_26, xA_26, px_27, px_28, xA_28, px_29, xA_29, px_30, xA_30, px_31, xA_31, px_32, xA_32, px_33, xA_33, px_34, xA_34, px_35, xA_35, px_36, xA_36, px_37, xA_37, px_38, xA_38, px_39, xA_39, px_40, xA_40, px_41, xA_41, px_42, xA_42, px_43, xA_43, px_44, xA_44, px_45, xA_45, px_46, xA_46, px_47, xA_47, px_48, xA_48, px_49, xA_49, px_50, xA_50, px_51, xA_51, px_52, xA_52, px_53, xA_53, px_54, xA_54, px_55, xA_55, px_56, xA_56, px_57, xA_57, px_58, xA_58, px_59, xA_59, px_60, xA_60, px_61, xA_61, px_62, xA_62, px_63, xA_63, px_64, xA_64, px_65, xA_65, px_66, xA_66, px_67, xA_67, px_68, xA_68, px_69, xA_69, px_70, xf_70_0, xI_70_0, xf_70_1, xI_70_1, xf_70_2, xI_70_2, xf_70_3, xf_70_4, px_71, xA_71, px_72, xA_72, ni_ixL, ni_clL, ni_add, ni_mul, ni_lt, ni_le, ni_eq, ni_clamp, ni_ix, ni_lt0, ni_0le, ni_ltL, ni_Llt, ni_leL, ni_Lle, ni_eqL, ni_addL, ni_Ladd, ni_mulL, ni_Lmul, ni_subL, ni_sub, ni_Lsub, le_t, le_f, lt_t, lt_f, eq_f, il_lt, il_l0, il_g0, il_l1, il_g1, il_l2, il_g2, il_l3, il_g3, il_l4, il_g4, il_l5, il_g5, il_l7, il_g7, il_l8, il_g8, il_l9, il_g9, il_l10, il_g10, il_l15, il_g15, il_l20, il_g20, il_l23, il_g23, il_l24, il_g24, il_l60, il_g60, il_l100, il_g100, il_l999, il_g999, il_l1000, il_g1000, putR_lo, hset_lo, putR_lt hh, rd_hi, wr_hi, hs_1, hs_s, hs_o, uv_s, uv_o, pv_0, pv_n, i1_0, bs_0, bs_1, im_lt, im_ge, im_eq, ni_em, hcH, hcH1, x2]
      rw [st1]
      have hh := hh'
      have st2 : Go (d + 40 + 3) 150 133 [.ref 5, .ref ((g.1 6) c), .ref b, .long 0, mk0, .null, .null, .ref h.1, .null] [] (putR r0 (putX x' h')) Q = Go (d + 40 + 3) 150 175 [.ref 5, .ref ((g.1 6) c), .ref b, .long 0, mk0, .null, .ref h'.1, .ref h.1, .null] [] (putR r0 (putX x' (lnH h' 903 ((g.2.2.2.2.2 14) c)))) Q := by
        simp (disch := first | exact c1_i _ | exact c1_r _ | exact c1_n | exact c1_m | omega | assumption | (apply ac_l; omega) | (apply ac_r; omega) | decide | exact Or.inl rfl) only [e_150_133, e_150_133n, e_150_135n, e_150_135, e_150_144, e_150_145, e_150_152, e_150_152n, e_150_154, e_150_154n, e_150_156n, e_150_156, e_150_159, e_150_162, e_150_162n, e_150_163, e_150_166, e_150_169, e_150_173, e_150_173n, Option.toList_some, Option.toList_none, List.cons_append, List.nil_append, catS_cons, catS_nil, cat_int, cat_long, cat_ref, cat_null, c1_i, c1_r, c1_n, c1_m, true_and, and_true, and_self, putR_1, putR_u, eq_self, Nat.reduceLT, Nat.reduceLeDiff, Nat.reduceAdd, Nat.reduceEqDiff, vk_i, vk_l, vk_r, vk_n, vk_0, vk_1, if_true, if_false, not_true_eq_false, not_false_eq_true, false_and, and_false, ne_eq, true_or, or_true, ite_not, reduceCtorEq, putX_1, putX_u, putX_hi, hset_Xhi, px_5, xf_5_0, xf_5_1, xI_5_1, xf_5_2, xR_0, xf_5_3, xI_5_3, xf_5_4, xI_5_4, xf_5_5, xf_5_6, xI_5_6, xf_5_7, xf_5_8, xf_5_9, xf_5_10, xf_5_11, xf_5_12, xf_5_13, xf_5_14, xf_5_15, xI_5_15, px_6, xA_6, px_18, xA_18, px_19, xf_19_0, xI_19_0, xf_19_1, xR_1, xf_19_2, xI_19_2, px_20, xf_20_0, xI_20_0, xf_20_1, xR_2, xf_20_2, xI_20_2, px_21, xf_21_0, xI_21_0, xf_21_1, xR_3, xf_21_2, xI_21_2, px_22, xf_22_0, xI_22_0, xf_22_1, xR_4, xf_22_2, xI_22_2, px_23, xf_23_0, xI_23_0, xf_23_1, xR_5, xf_23_2, xI_23_2, px_24, xf_24_0, xI_24_0, xf_24_1, xR_6, xf_24_2, xI_24_2, px_25, xf_25_0, xI_25_0, xf_25_1, xI_25_1, xf_25_2, xf_25_3, xI_25_3, xf_25_4, xf_25_5, xf_25_6, px_26, xA_26, px_27, px_28, xA_28, px_29, xA_29, px_30, xA_30, px_31, xA_31, px_32, xA_32, px_33, xA_33, px_34, xA_34, px_35, xA_35, px_36, xA_36, px_37, xA_37, px_38, xA_38, px_39, xA_39, px_40, xA_40, px_41, xA_41, px_42, xA_42, px_43, xA_43, px_44, xA_44, px_45, xA_45, px_46, xA_46, px_47, xA_47, px_48, xA_48, px_49, xA_49, px_50, xA_50, px_51, xA_51, px_52, xA_52, px_53, xA_53, px_54, xA_54, px_55, xA_55, px_56, xA_56, px_57, xA_57, px_58, xA_58, px_59, xA_59, px_60, xA_60, px_61, xA_61, px_62, xA_62, px_63, xA_63, px_64, xA_64, px_65, xA_65, px_66, xA_66, px_67, xA_67, px_68, xA_68, px_69, xA_69, px_70, xf_70_0, xI_70_0, xf_70_1, xI_70_1, xf_70_2, xI_70_2, xf_70_3, xf_70_4, px_71, xA_71, px_72, xA_72, ni_ixL, ni_clL, ni_add, ni_mul, ni_lt, ni_le, ni_eq, ni_clamp, ni_ix, ni_lt0, ni_0le, ni_ltL, ni_Llt, ni_leL, ni_Lle, ni_eqL, ni_addL, ni_Ladd, ni_mulL, ni_Lmul, ni_subL, ni_sub, ni_Lsub, le_t, le_f, lt_t, lt_f, eq_f, il_lt, il_l0, il_g0, il_l1, il_g1, il_l2, il_g2, il_l3, il_g3, il_l4, il_g4, il_l5, il_g5, il_l7, il_g7, il_l8, il_g8, il_l9, il_g9, il_l10, il_g10, il_l15, il_g15, il_l20, il_g20, il_l23, il_g23, il_l24, il_g24, il_l60, il_g60, il_l100, il_g100, il_l999, il_g999, il_l1000, il_g1000, putR_lo, hset_lo, putR_lt hh, rd_hi, wr_hi, hs_1, hs_s, hs_o, uv_s, uv_o, pv_0, pv_n, i1_0, bs_0, bs_1, im_lt, im_ge, im_eq, ni_em, t', q1', x3]
      rw [st2]
      exact x5
    · obtain ⟨V4, V5, V6, V7, rfl⟩ := hls
      rw [e61 (d + 3) H' Q V4 V5 V6 V7 hH]
      have hh := hH
      have hgt : ¬ nI (g.1 0 1) + nI l'.length ≤ 60 := by
        rw [ni_add]
        show ¬ nI ((g.1 0 1) + l'.length) ≤ nI 60
        rw [ni_le (by omega) (by omega)]
        omega
      have f0 : (sA rD 118 c 1).1 32 = nI (g.1 0 1) := hnd
      have f1 : (sA rD 118 c 1).1 90 = nI l'.length := e3
      have f2 : sA (sA (sA rD 118 c 1) 118 c 2) 131 c 0 = rgR (sA rD 118 c 2) c (A + L) (nI 0) (rD.2.2.1 132) := by
        rw [sA_A]
        exact rg_0 (s := sA rD 118 c 2) e2.1
      have f3 := fun Q => r_row (d := d + 7) (s := sA rD 118 c 2) (c := c) (i := 0) (n := A + L) (T := rD.2.2.1 132) (h := H') (Q := Q) (w0 := 0) (w1 := 903) (w2 := nI ((g.2.2.2.2.2 14) c)) (w3 := 0) (w4 := 0) hH (by omega) (by omega)
      have f4 := fun Q => p6 d H' Q hH
      have f5 : 0 + 1 = 1 := rfl
      rw [f5] at f3
      generalize rgR (sA rD 118 c 2) c (A + L) (nI 1) (w5F (rD.2.2.1 132) (60 * c + 5 * 0) 0 903 (nI ((g.2.2.2.2.2 14) c)) 0 0) = rF at *
      simp (disch := first | exact c1_i _ | exact c1_r _ | exact c1_n | exact c1_m | omega | assumption | (apply ac_l; omega) | (apply ac_r; omega) | decide | exact Or.inl rfl) only [e_275_93, e_275_93n, e_275_94, e_275_97, e_275_97n, e_275_98, e_275_101, e_275_102, e_275_104, e_275_107, e_275_107n, e_275_108, e_275_111, e_275_112, e_275_113, e_275_114, e_275_114n, e_275_115, e_275_116, e_275_119, e_275_119n, e_275_120, e_275_121, e_275_122, e_275_125, e_275_126, e_275_127, e_275_128, e_275_131, e_275_161, e_275_312, e_275_312n, e_275_313, e_275_314, e_275_317, e_231_0, e_231_0n, e_231_1, e_231_4, e_231_5, e_231_6, e_231_7, Option.toList_some, Option.toList_none, List.cons_append, List.nil_append, catS_cons, catS_nil, cat_int, cat_long, cat_ref, cat_null, c1_i, c1_r, c1_n, c1_m, true_and, and_true, and_self, putR_1, putR_u, eq_self, Nat.reduceLT, Nat.reduceLeDiff, Nat.reduceAdd, Nat.reduceEqDiff, vk_i, vk_l, vk_r, vk_n, vk_0, vk_1, if_true, if_false, not_true_eq_false, not_false_eq_true, false_and, and_false, ne_eq, true_or, or_true, ite_not, reduceCtorEq, pr_73, pr_74, pr_75, pr_76, pr_77, pr_78, pr_79, pr_80, pr_81, pr_82, pr_83, pr_84, pr_85, pr_86, pr_87, pr_88, pr_89, pr_90, pr_91, pr_92, pr_93, pr_94, pr_95, pr_96, pr_97, pr_98, pr_99, pr_100, pr_101, pr_102, pr_103, pr_104, pr_105, pr_106, pr_107, pr_108, pr_109, pr_110, pr_111, pr_112, pr_113, pr_114, pr_115, pr_116, pr_117, pr_118, pr_119, pr_120, pr_121, pr_122, pr_123, pr_124, pr_125, pr_126, pr_127, pr_128, pr_129, pr_130, pr_131, pr_132, pr_133, pr_134, pr_135, pr_136, pr_137, pr_138, pr_139, pr_140, pr_141, pr_142, pr_143, pr_144, pr_145, rf_0, rf_1, hI_1, rf_2, hI_2, rf_3, hI_3, rf_4, hI_4, rf_5, hI_5, rf_6, hI_6, rf_7, hI_7, rf_8, rf_9, rf_10, rf_11, hI_11, rf_12, rf_13, rf_14, rf_15, rf_16, hI_16, rf_17, rf_18, rf_19, rf_20, rf_21, rf_22, rf_23, hI_23, rf_24, rf_25, rf_26, rf_27, rf_28, hI_28, rf_29, rf_30, hI_30, rf_31, rf_32, hI_32, rf_33, hI_33, rf_34, rf_35, rf_36, rf_37, rf_38, rf_39, rf_40, rf_41, hI_41, rf_42, rf_43, rf_44, rf_45, rf_46, rf_47, rf_48, rf_49, rf_50, hI_50, rf_51, rf_52, rf_53, rf_54, rf_55, rf_56, rf_57, hI_57, rf_58, rf_59, rf_60, rf_61, rf_62, rf_63, rf_64, rf_65, rf_66, rf_67, rf_68, rf_69, rf_70, rf_71, rf_72, rf_73, rf_74, rf_75, hI_75, rf_76, rf_77, rf_78, hI_78, rf_79, rf_80, rf_81, hI_81, rf_82, hI_82, rf_83, rf_84, hI_84, rf_85, rf_86, rf_87, hI_87, rf_88, hI_88, rf_89, hI_89, rf_90, hI_90, rf_91, rf_92, rf_93, rf_94, hI_94, rf_95, hI_95, rf_96, rf_97, rf_98, rf_99, rf_100, hset_W, hA_74, hL_75, hA_76, hL_77, hA_78, hL_79, hA_80, hL_81, hA_82, hL_83, hA_84, hA_85, hA_86, hL_87, hA_88, hA_89, hA_90, hA_91, hA_92, hA_93, hA_94, hA_95, hA_96, hA_97, hA_98, hA_99, hA_100, hA_101, hA_102, hA_103, hA_104, hA_105, hL_106, hA_107, hA_108, hA_109, hA_110, hA_111, hA_112, hA_113, hA_114, hA_115, hA_116, hA_117, hA_118, hA_119, hA_120, hA_121, hA_122, hA_123, hA_124, hA_125, hA_126, hA_127, hA_128, hA_129, hA_130, hA_131, hA_132, hA_133, hA_134, hA_135, hA_136, hA_137, hA_138, hA_139, hA_140, hA_141, hA_142, hA_143, hA_144, hA_145, ni_ixL, ni_clL, ni_add, ni_mul, ni_lt, ni_le, ni_eq, ni_clamp, ni_ix, ni_lt0, ni_0le, ni_ltL, ni_Llt, ni_leL, ni_Lle, ni_eqL, ni_addL, ni_Ladd, ni_mulL, ni_Lmul, ni_subL, ni_sub, ni_Lsub, le_t, le_f, lt_t, lt_f, eq_f, il_lt, il_l0, il_g0, il_l1, il_g1, il_l2, il_g2, il_l3, il_g3, il_l4, il_g4, il_l5, il_g5, il_l7, il_g7, il_l8, il_g8, il_l9, il_g9, il_l10, il_g10, il_l15, il_g15, il_l20, il_g20, il_l23, il_g23, il_l24, il_g24, il_l60, il_g60, il_l100, il_g100, il_l999, il_g999, il_l1000, il_g1000, r_in, putR_lt hh, sA_1, sA_s, i1_0, bs_0, bs_1, im_lt, im_ge, im_eq, ni_em, f0, f1, hgt, f2, f3, f4]
  · -- there is room
    have hv1 : v'.2.2.1 118 = (r.2.2.1 118) := k2.2.2.1 _ (by decide) (by decide) (by decide)
    have wB := k1
    have h0B : (sR v' 95 (ra'.2.2.1 95)).2.2.1 118 c = 0 := by
      show v'.2.2.1 118 c = 0
      rw [hv1]
      exact h0
    obtain ⟨-, -, -, -, -, -, -, -, -, -, -, -, -, -, -, v16, -, -, -, -, v21, v22, -⟩ := w_cal wB c hc'
    have v5 := (wB.2.2.2.2.2.2 c hc').2.2.2.2.1
    have hes : eSort g' (sR v' 95 (ra'.2.2.1 95)) c = e := by
      rw [he]
      unfold eSort
      have : (sR v' 95 (ra'.2.2.1 95)).2.2.1 84 = (r.2.2.1 84) := k2.2.2.1 _ (by decide) (by decide) (by decide)
      rw [this, g7, g8, g9]
    obtain ⟨p1, p2, p3⟩ := k4.2 0 (by omega)
    obtain ⟨p4, p5⟩ := k5 0 (by omega)
    rw [Nat.add_zero] at p4 p5
    have hva0 : as 0 ≠ 0 := by have := p2.1; omega
    have hE := w_end (v := 1) (va := as 0) (ta := 0) (m := (g'.2.2.2.2.2 32) c) (N := upN (v'.2.2.2 87) (543 + c) (ra'.2.2.2 87 (543 + c))) (L := upN (v'.2.2.1 88) (543 + c) (ra'.2.2.1 88 (543 + c))) (S := wrF (v'.2.2.1 89) (fun k => ra'.2.2.1 89 (16 * (543 + c) + k)) (16 * (543 + c)) 16) (T := v'.2.2.1 132) wB hc' h0B (fun y => absurd y hl') v22 (Or.inl ⟨rfl, hva0, rfl, p2, by
      rw [hes]
      exact vr_cell p4 (upN_s _ _ _) (upN_s _ _ _) (fun k hk => wrF_i _ _ hk), by
      rw [hes, upN_s]
      exact p5⟩) (fun k hk => upN_n _ _ hk) (fun k hk => upN_n _ _ hk) (fun k j hk hj => wrF_o _ _ (by omega)) (fun _ _ _ _ => rfl)
    have hsta : ra'.2.2.1 118 = upN (v'.2.2.1 118) c 1 := by rw [k6, hstA, hv1]
    have wF := w_sc hE (sc_en k3 hsta v21)
    have hst1 : ra'.2.2.1 118 c = 1 := by rw [hsta, upN_s]
    have hvl : (enG g' c (as 0) 0 ((g'.2.2.2.2.2 32) c)).2.2.2.2.2 21 c = as 0 := upN_s ((g'.2.2.2.2.2 21)) c (as 0)
    have hrow : ∀ a, a ≠ 134 → a ≠ 135 → a ≠ 136 → a ≠ 137 → a ≠ 133 → a ≠ 138 → a ≠ 145 → a ≠ 131 → a ≠ 132 → a ≠ 88 → a ≠ 89 → a ≠ 95 → a ≠ 118 → ra'.2.2.1 a = v'.2.2.1 a := k3.1.2.2.1
    have haw : ra'.2.2.1 120 = v'.2.2.1 120 := hrow _ (by decide) (by decide) (by decide) (by decide) (by decide) (by decide) (by decide) (by decide) (by decide) (by decide) (by decide) (by decide) (by decide)
    obtain ⟨g2', r2, xx, h2', s1, ⟨s2, s3, s4⟩, s5, s6⟩ := tell_v wF hc' hst1 (by rw [haw]; exact ⟨v16, v5 h0B⟩) (fun o ho => outer_ep (g := g') (r' := ra') wB hc' h0B ho (fun j hj => by
      rw [hsta, upN_n _ _ hj]
      rfl) (by rw [hst1]; decide) (hrow _ (by decide) (by decide) (by decide) (by decide) (by decide) (by decide) (by decide) (by decide) (by decide) (by decide) (by decide) (by decide) (by decide)) (hrow _ (by decide) (by decide) (by decide) (by decide) (by decide) (by decide) (by decide) (by decide) (by decide) (by decide) (by decide) (by decide) (by decide)) (hrow _ (by decide) (by decide) (by decide) (by decide) (by decide) (by decide) (by decide) (by decide) (by decide) (by decide) (by decide) (by decide) (by decide)))
    have eh1 : (enH h' ((g'.1 6) c) 1 (as 0) 0).1 = h'.1 := rfl
    have eh2 : (enH h' ((g'.1 6) c) 1 (as 0) 0).2.1 = h'.2.1 := rfl
    rw [eh1] at s2 s3
    rw [eh2] at s4
    refine ⟨g2', r2, xx, h2', s1, ⟨by omega, by omega, by omega⟩, fun d r0 Q ls hls => ?_, fun d H' Q ls hls hH => ?_⟩
    · obtain ⟨Z7, Z8, rfl⟩ := hls
      have hh' := sim_146 wB.1
      obtain ⟨a1', a2', ⟨t', q0', q1', q2', q3', q4', q5', -⟩⟩ := s_cal wB.1 hc'
      have x2 := fun Q => z3 (d + 8) r0 Q
      have x4 := fun Q => s5 (d + 1) r0 Q
      rw [hvl] at x4
      have x5 := x_175v (d := d + 41) (r0 := r0) (x := x') (x' := xx) (h := h') (h' := h2') (a := (g'.1 6) c) (b := b) (u := 0) (va := as 0) (Q := Q) (ou := if (g'.2.2.2.2.2 18) c = 0 then 0 else (g'.1 6) ((g'.2.2.2.2.2 18) c - 1)) (Z7 := .ref h.1) (Z8 := .ref H.1) hh' a1' a2' t' q5' hva0 x4
      rw [g1] at x5 t' a1' a2'
      have hHH : 146 ≤ H.1 := by omega
      have hcH : (H.2.2 ((g.1 6) c)).1 = 3 := by rw [H4 _ (by omega)]; exact t
      have hcH1 : (H.2.2 ((g.1 6) c)).2.2 1 = .ref ((g.1 4) ((g.2.2.2.2.2 14) c)) := by rw [H4 _ (by omega)]; exact q1
      have haH : (g.1 6) c < H.1 := by omega
      have st1 : Go (d + 40 + 3) 150 120 [.ref 5, .ref ((g.1 6) c), .ref b, .long 0, mk0, .null, .null, .ref h.1, Z8] [] (putR r0 (putX x H)) Q = Go (d + 40 + 3) 150 133 [.ref 5, .ref ((g.1 6) c), .ref b, .long 0, mk0, .null, .null, .ref h.1, .ref H.1] [] (putR r0 (putX x' h')) Q := by
        have hh := hHH
        simp (disch := first | exact c1_i _ | exact c1_r _ | exact c1_n | exact c1_m | omega | assumption | (apply ac_l; omega) | (apply ac_r; omega) | decide | exact Or.inl rfl) only [e_150_120, e_150_120n, e_150_121, e_150_121n, e_150_122, e_150_125, e_150_125n, e_150_126, e_150_126n, e_150_128, e_150_131, e_150_131n, Option.toList_some, Option.toList_none, List.cons_append, List.nil_append, catS_cons, catS_nil, cat_int, cat_long, cat_ref, cat_null, c1_i, c1_r, c1_n, c1_m, true_and, and_true, and_self, putR_1, putR_u, eq_self, Nat.reduceLT, Nat.reduceLeDiff, Nat.reduceAdd, Nat.reduceEqDiff, vk_i, vk_l, vk_r, vk_n, vk_0, vk_1, if_true, if_false, not_true_eq_false, not_false_eq_true, false_and, and_false, ne_eq, true_or, or_true, ite_not, reduceCtorEq, putX_1, putX_u, putX_hi, hset_Xhi, px_5, xf_5_0, xf_5_1, xI_5_1, xf_5_2, xR_0, xf_5_3, xI_5_3, xf_5_4, xI_5_4, xf_5_5, xf_5_6, xI_5_6, xf_5_7, xf_5_8, xf_5_9, xf_5_10, xf_5_11, xf_5_12, xf_5_13, xf_5_14, xf_5_15, xI_5_15, px_6, xA_6, px_18, xA_18, px_19, xf_19_0, xI_19_0, xf_19_1, xR_1, xf_19_2, xI_19_2, px_20, xf_20_0, xI_20_0, xf_20_1, xR_2, xf_20_2, xI_20_2, px_21, xf_21_0, xI_21_0, xf_21_1, xR_3, xf_21_2, xI_21_2, px_22, xf_22_0, xI_22_0, xf_22_1, xR_4, xf_22_2, xI_22_2, px_23, xf_23_0, xI_23_0, xf_23_1, xR_5, xf_23_2, xI_23_2, px_24, xf_24_0, xI_24_0, xf_24_1, xR_6, xf_24_2, xI_24_2, px_25, xf_25_0, xI_25_0, xf_25_1, xI_25_1, xf_25_2, xf_25_3, xI_25_3, xf_25_4, xf_25_5, xf_25_6, px_26, xA_26, px_27, px_28, xA_28, px_29, xA_29, px_30, xA_30, px_31, xA_31, px_32, xA_32, px_33, xA_33, px_34, xA_34, px_35, xA_35, px_36, xA_36, px_37, xA_37, px_38, xA_38, px_39, xA_39, px_40, xA_40, px_41, xA_41, px_42, xA_42, px_43, xA_43, px_44, xA_44, px_45, xA_45, px_46, xA_46, px_47, xA_47, px_48, xA_48, px_49, xA_49, px_50, xA_50, px_51, xA_51, px_52, xA_52, px_53, xA_53, px_54, xA_54, px_55, xA_55, px_56, xA_56, px_57, xA_57, px_58, xA_58, px_59, xA_59, px_60, xA_60, px_61, xA_61, px_62, xA_62, px_63, xA_63, px_64, xA_64, px_65, xA_65, px_66, xA_66, px_67, xA_67, px_68, xA_68, px_69, xA_69, px_70, xf_70_0, xI_70_0, xf_70_1, xI_70_1, xf_70_2, xI_70_2, xf_70_3, xf_70_4, px_71, xA_71, px_72, xA_72, ni_ixL, ni_clL, ni_add, ni_mul, ni_lt, ni_le, ni_eq, ni_clamp, ni_ix, ni_lt0, ni_0le, ni_ltL, ni_Llt, ni_leL, ni_Lle, ni_eqL, ni_addL, ni_Ladd, ni_mulL, ni_Lmul, ni_subL, ni_sub, ni_Lsub, le_t, le_f, lt_t, lt_f, eq_f, il_lt, il_l0, il_g0, il_l1, il_g1, il_l2, il_g2, il_l3, il_g3, il_l4, il_g4, il_l5, il_g5, il_l7, il_g7, il_l8, il_g8, il_l9, il_g9, il_l10, il_g10, il_l15, il_g15, il_l20, il_g20, il_l23, il_g23, il_l24, il_g24, il_l60, il_g60, il_l100, il_g100, il_l999, il_g999, il_l1000, il_g1000, putR_lo, hset_lo, putR_lt hh, rd_hi, wr_hi, hs_1, hs_s, hs_o, uv_s, uv_o, pv_0, pv_n, i1_0, bs_0, bs_1, im_lt, im_ge, im_eq, ni_em, hcH, hcH1, x2]
      have hh := hh'
      obtain ⟨m25, m1⟩ := k4.1
      have st2 : Go (d + 40 + 3) 150 133 [.ref 5, .ref ((g.1 6) c), .ref b, .long 0, mk0, .null, .null, .ref h.1, .ref H.1] [] (putR r0 (putX x' h')) Q = Go (d + 40 + 3) 150 175 [.ref 5, .ref ((g.1 6) c), .ref b, .long 0, mk0, .ref (as 0), .null, .ref h.1, .ref H.1] [] (putR r0 (putX x' h')) Q := by
        simp (disch := first | exact c1_i _ | exact c1_r _ | exact c1_n | exact c1_m | omega | assumption | (apply ac_l; omega) | (apply ac_r; omega) | decide | exact Or.inl rfl) only [e_150_133, e_150_133n, e_150_135n, e_150_135, e_150_138, e_150_138n, e_150_140, e_150_141, e_150_148, e_150_148n, e_150_150, e_150_151, e_150_152, e_150_152n, e_150_154, e_150_154n, e_150_156n, e_150_156, e_150_172, e_150_173, e_150_173n, Option.toList_some, Option.toList_none, List.cons_append, List.nil_append, catS_cons, catS_nil, cat_int, cat_long, cat_ref, cat_null, c1_i, c1_r, c1_n, c1_m, true_and, and_true, and_self, putR_1, putR_u, eq_self, Nat.reduceLT, Nat.reduceLeDiff, Nat.reduceAdd, Nat.reduceEqDiff, vk_i, vk_l, vk_r, vk_n, vk_0, vk_1, if_true, if_false, not_true_eq_false, not_false_eq_true, false_and, and_false, ne_eq, true_or, or_true, ite_not, reduceCtorEq, putX_1, putX_u, putX_hi, hset_Xhi, px_5, xf_5_0, xf_5_1, xI_5_1, xf_5_2, xR_0, xf_5_3, xI_5_3, xf_5_4, xI_5_4, xf_5_5, xf_5_6, xI_5_6, xf_5_7, xf_5_8, xf_5_9, xf_5_10, xf_5_11, xf_5_12, xf_5_13, xf_5_14, xf_5_15, xI_5_15, px_6, xA_6, px_18, xA_18, px_19, xf_19_0, xI_19_0, xf_19_1, xR_1, xf_19_2, xI_19_2, px_20, xf_20_0, xI_20_0, xf_20_1, xR_2, xf_20_2, xI_20_2, px_21, xf_21_0, xI_21_0, xf_21_1, xR_3, xf_21_2, xI_21_2, px_22, xf_22_0, xI_22_0, xf_22_1, xR_4, xf_22_2, xI_22_2, px_23, xf_23_0, xI_23_0, xf_23_1, xR_5, xf_23_2, xI_23_2, px_24, xf_24_0, xI_24_0, xf_24_1, xR_6, xf_24_2, xI_24_2, px_25, xf_25_0, xI_25_0, xf_25_1, xI_25_1, xf_25_2, xf_25_3, xI_25_3, xf_25_4, xf_25_5, xf_25_6, px_26, xA_26, px_27, px_28, xA_28, px_29, xA_29, px_30, xA_30, px_31, xA_31, px_32, xA_32, px_33, xA_33, px_34, xA_34, px_35, xA_35, px_36, xA_36, px_37, xA_37, px_38, xA_38, px_39, xA_39, px_40, xA_40, px_41, xA_41, px_42, xA_42, px_43, xA_43, px_44, xA_44, px_45, xA_45, px_46, xA_46, px_47, xA_47, px_48, xA_48, px_49, xA_49, px_50, xA_50, px_51, xA_51, px_52, xA_52, px_53, xA_53, px_54, xA_54, px_55, xA_55, px_56, xA_56, px_57, xA_57, px_58, xA_58, px_59, xA_59, px_60, xA_60, px_61, xA_61, px_62, xA_62, px_63, xA_63, px_64, xA_64, px_65, xA_65, px_66, xA_66, px_67, xA_67, px_68, xA_68, px_69, xA_69, px_70, xf_70_0, xI_70_0, xf_70_1, xI_70_1, xf_70_2, xI_70_2, xf_70_3, xf_70_4, px_71, xA_71, px_72, xA_72, ni_ixL, ni_clL, ni_add, ni_mul, ni_lt, ni_le, ni_eq, ni_clamp, ni_ix, ni_lt0, ni_0le, ni_ltL, ni_Llt, ni_leL, ni_Lle, ni_eqL, ni_addL, ni_Ladd, ni_mulL, ni_Lmul, ni_subL, ni_sub, ni_Lsub, le_t, le_f, lt_t, lt_f, eq_f, il_lt, il_l0, il_g0, il_l1, il_g1, il_l2, il_g2, il_l3, il_g3, il_l4, il_g4, il_l5, il_g5, il_l7, il_g7, il_l8, il_g8, il_l9, il_g9, il_l10, il_g10, il_l15, il_g15, il_l20, il_g20, il_l23, il_g23, il_l24, il_g24, il_l60, il_g60, il_l100, il_g100, il_l999, il_g999, il_l1000, il_g1000, putR_lo, hset_lo, putR_lt hh, rd_hi, wr_hi, hs_1, hs_s, hs_o, uv_s, uv_o, pv_0, pv_n, i1_0, bs_0, bs_1, im_lt, im_ge, im_eq, ni_em, m25, m1, p1]
      rw [e107 (d + 40), st1, st2]
      exact x5
    · obtain ⟨V4, V5, V6, V7, rfl⟩ := hls
      rw [e61 (d + 3) H' Q V4 V5 V6 V7 hH]
      have hh := hH
      have hle : nI (g.1 0 1) + nI l'.length ≤ 60 := by
        rw [ni_add]
        show nI ((g.1 0 1) + l'.length) ≤ nI 60
        rw [ni_le (by omega) (by omega)]
        omega
      have f0 : (sA rD 118 c 1).1 32 = nI (g.1 0 1) := hnd
      have f1 : (sA rD 118 c 1).1 90 = nI l'.length := e3
      obtain ⟨r3, -, f2, f2'⟩ := k7
      have f2'' : r3 = ra' := f2'
      subst f2''
      rw [hra] at f2
      have f3 : ∀ Q, Go (d + 8) 273 0 [.ref 73, .int (nI (543 + c)), .int e, .int (nI ((g.2.2.2.2.2 14) c)), .int 0, mk0, mk0, mk0, mk0, mk0, mk0, mk0, mk0] [] (putR (sI (sI (sA rD 118 c 1) 88 (nI (A + 1))) 90 0) H') Q = Q none (putR r3 H') := fun Q => f2 (d + 4) H' Q hH
      have f4 := fun Q => r_as (d := d + 6) (h := H') (s := sI (sI (sA rD 118 c 1) 88 (nI (A + 1))) 90 0) (Q := Q) hw hH hc (sc_row e1 115 (by decide)) (sc_row e1 116 (by decide)) (sc_row e1 101 (by decide)) (sc_row e1 84 (by decide))
      rw [← he] at f4
      have f5 : (543 : Int32) + nI c = nI (543 + c) := ni_add 543 c
      have f6 := fun Q => s6 d H' Q hH
      simp (disch := first | exact c1_i _ | exact c1_r _ | exact c1_n | exact c1_m | omega | assumption | (apply ac_l; omega) | (apply ac_r; omega) | decide | exact Or.inl rfl) only [e_275_93, e_275_93n, e_275_94, e_275_97, e_275_97n, e_275_98, e_275_101, e_275_102, e_275_104, e_275_134, e_275_134n, e_275_135, e_275_137, e_275_140, e_275_140n, e_275_141, e_275_142, e_275_145, e_275_145n, e_275_146, e_275_149, e_275_150, e_275_151, e_275_151n, e_275_152, e_275_153, e_275_156, e_275_157, e_275_158, e_275_161, e_275_312, e_275_312n, e_275_313, e_275_314, e_275_317, Option.toList_some, Option.toList_none, List.cons_append, List.nil_append, catS_cons, catS_nil, cat_int, cat_long, cat_ref, cat_null, c1_i, c1_r, c1_n, c1_m, true_and, and_true, and_self, putR_1, putR_u, eq_self, Nat.reduceLT, Nat.reduceLeDiff, Nat.reduceAdd, Nat.reduceEqDiff, vk_i, vk_l, vk_r, vk_n, vk_0, vk_1, if_true, if_false, not_true_eq_false, not_false_eq_true, false_and, and_false, ne_eq, true_or, or_true, ite_not, reduceCtorEq, pr_73, pr_74, pr_75, pr_76, pr_77, pr_78, pr_79, pr_80, pr_81, pr_82, pr_83, pr_84, pr_85, pr_86, pr_87, pr_88, pr_89, pr_90, pr_91, pr_92, pr_93, pr_94, pr_95, pr_96, pr_97, pr_98, pr_99, pr_100, pr_101, pr_102, pr_103, pr_104, pr_105, pr_106, pr_107, pr_108, pr_109, pr_110, pr_111, pr_112, pr_113, pr_114, pr_115, pr_116, pr_117, pr_118, pr_119, pr_120, pr_121, pr_122, pr_123, pr_124, pr_125, pr_126, pr_127, pr_128, pr_129, pr_130, pr_131, pr_132, pr_133, pr_134, pr_135, pr_136, pr_137, pr_138, pr_139, pr_140, pr_141, pr_142, pr_143, pr_144, pr_145, rf_0, rf_1, hI_1, rf_2, hI_2, rf_3, hI_3, rf_4, hI_4, rf_5, hI_5, rf_6, hI_6, rf_7, hI_7, rf_8, rf_9, rf_10, rf_11, hI_11, rf_12, rf_13, rf_14, rf_15, rf_16, hI_16, rf_17, rf_18, rf_19, rf_20, rf_21, rf_22, rf_23, hI_23, rf_24, rf_25, rf_26, rf_27, rf_28, hI_28, rf_29, rf_30, hI_30, rf_31, rf_32, hI_32, rf_33, hI_33, rf_34, rf_35, rf_36, rf_37, rf_38, rf_39, rf_40, rf_41, hI_41, rf_42, rf_43, rf_44, rf_45, rf_46, rf_47, rf_48, rf_49, rf_50, hI_50, rf_51, rf_52, rf_53, rf_54, rf_55, rf_56, rf_57, hI_57, rf_58, rf_59, rf_60, rf_61, rf_62, rf_63, rf_64, rf_65, rf_66, rf_67, rf_68, rf_69, rf_70, rf_71, rf_72, rf_73, rf_74, rf_75, hI_75, rf_76, rf_77, rf_78, hI_78, rf_79, rf_80, rf_81, hI_81, rf_82, hI_82, rf_83, rf_84, hI_84, rf_85, rf_86, rf_87, hI_87, rf_88, hI_88, rf_89, hI_89, rf_90, hI_90, rf_91, rf_92, rf_93, rf_94, hI_94, rf_95, hI_95, rf_96, rf_97, rf_98, rf_99, rf_100, hset_W, hA_74, hL_75, hA_76, hL_77, hA_78, hL_79, hA_80, hL_81, hA_82, hL_83, hA_84, hA_85, hA_86, hL_87, hA_88, hA_89, hA_90, hA_91, hA_92, hA_93, hA_94, hA_95, hA_96, hA_97, hA_98, hA_99, hA_100, hA_101, hA_102, hA_103, hA_104, hA_105, hL_106, hA_107, hA_108, hA_109, hA_110, hA_111, hA_112, hA_113, hA_114, hA_115, hA_116, hA_117, hA_118, hA_119, hA_120, hA_121, hA_122, hA_123, hA_124, hA_125, hA_126, hA_127, hA_128, hA_129, hA_130, hA_131, hA_132, hA_133, hA_134, hA_135, hA_136, hA_137, hA_138, hA_139, hA_140, hA_141, hA_142, hA_143, hA_144, hA_145, ni_ixL, ni_clL, ni_add, ni_mul, ni_lt, ni_le, ni_eq, ni_clamp, ni_ix, ni_lt0, ni_0le, ni_ltL, ni_Llt, ni_leL, ni_Lle, ni_eqL, ni_addL, ni_Ladd, ni_mulL, ni_Lmul, ni_subL, ni_sub, ni_Lsub, le_t, le_f, lt_t, lt_f, eq_f, il_lt, il_l0, il_g0, il_l1, il_g1, il_l2, il_g2, il_l3, il_g3, il_l4, il_g4, il_l5, il_g5, il_l7, il_g7, il_l8, il_g8, il_l9, il_g9, il_l10, il_g10, il_l15, il_g15, il_l20, il_g20, il_l23, il_g23, il_l24, il_g24, il_l60, il_g60, il_l100, il_g100, il_l999, il_g999, il_l1000, il_g1000, r_in, putR_lt hh, sA_1, sA_s, i1_0, bs_0, bs_1, im_lt, im_ge, im_eq, ni_em, f0, f1, hle, f5, f4, f3, f6]
end
