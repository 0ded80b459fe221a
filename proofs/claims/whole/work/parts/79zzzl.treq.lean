/-! a request for a thing's method is taken -/
section
variable {K : Nat → pcell} {tb : Nat} {g g' g0 g1 g2 : gS} {r r' r0 v v' R ra s' : rS} {x x' x0 x1 xb : xS} {h h' h0 h1 : pheap} {d : Nat} {Q : Option Value → pheap → Prop} {a n k m rc b L n0 p q j t c c2 c3 no A ce ce0 T Dn N i ar sa o e sv mm : Nat} {F fs sr w : Nat → Int32} {l l' lF : List Nat} {s z D : Int32} {os fc as nd : Nat → Nat} {S S' : Nat → Prop}
theorem eq_gs (hg : GSm g' g n0) (he : EQ g r c) (h1 : (r'.2.2.1 125) c = (r.2.2.1 125) c) (h2 : (g.2.2.2.2.2 14) c ≠ (g.2.2.2.2.2 15) c) (hb : (r.2.2.1 125) c = 1) : EQ g' r' c := by
  obtain ⟨G1, G2, G3, G4, G5, G6, G7⟩ := hg
  obtain ⟨e1, e2, e3⟩ := he
  have f1 : (g'.2.2.2.2.2 14) = (g.2.2.2.2.2 14) := G5 _ (by decide) (by decide)
  have f2 : (g'.2.2.2.2.2 15) = (g.2.2.2.2.2 15) := G5 _ (by decide) (by decide)
  have f3 : (g'.2.2.2.2.2 34) = (g.2.2.2.2.2 34) := G5 _ (by decide) (by decide)
  have f4 : (g'.2.2.2.2.2 18) = (g.2.2.2.2.2 18) := G5 _ (by decide) (by decide)
  have f5 : (g'.1 0 5) = (g.1 0 5) := G1 _ (by decide)
  refine ⟨fun y => absurd (by rw [f1, f2] at y; exact y) h2, fun _ => ⟨by rw [f3]; exact (e2 h2).1, Or.inl (h1.trans hb)⟩, fun i hi => ?_⟩
  rw [f4]
  exact e3 i (by rw [← f5]; exact hi)
theorem treq_arg (hw : World K tb g r x h) (hc : c < (g.1 0 5)) (hl : (g.2.2.2.2.2 14) c ≠ (g.2.2.2.2.2 15) c) (hob : (g.2.2.2.2.2 17) c = o + 1) (heq : EQ g r c) (hbg : (r.2.2.1 125) c = 1) (hic : (g.2.2.2.2.2 23) c = b) (hb : b ≠ 0) (hr : RD h b L F) (h5 : (h.2.2 b).2.2 5 = .int (nI 3)) (h2 : (h.2.2 b).2.2 2 = .int 0) (hmr : MR r A L F 3) (hp : prs ((g.2.2.2.2.2 8)) ((r.2.2.1 80)) ((g.2.2.2.2.2 13)) (g.1 0 4) F n ((List.range ((g.2.2.2.2.2 10) (8 * (g.2.2.2.2.2 13) o + (g.2.2.2.2.2 16) c))).map (fun a => (r.2.2.1 86) (3 * (8 * (g.2.2.2.2.2 13) o + (g.2.2.2.2.2 16) c) + a))) 3 [] = some (L, l')) : ∃ g' r' x' h', World K tb g' r' x' h' ∧ (h.1 ≤ h'.1 ∧ h'.1 ≤ h.1 + 750 ∧ h'.2.1 ≤ h.2.1 + 11400) ∧
    (∀ d r0 Q Z, Go (d + 43) 138 90 [.ref 5, .ref ((g.1 6) c), .ref b, Z] [] (putR r0 (putX x h)) Q = Q none (putR r0 (putX x' h'))) ∧ (∀ d (H : pheap) Q V3 V4 V5 V6 V7 V8, 146 ≤ H.1 → Go (d + 9) 269 140 [.ref 73, .int (nI c), .int (nI ((g.2.2.2.2.2 15) c)), V3, V4, .int V5, V6, V7, V8] [] (putR r H) Q = Q none (putR r' H)) := by
  have hh := sim_146 hw.1
  obtain ⟨n1, n2, n3⟩ := w_nc hw
  obtain ⟨d1, d2, -⟩ := w_nd hw
  obtain ⟨nn1, nn2, nn3⟩ := w_nn hw
  obtain ⟨u1, u2, u3, u4, u5, u6, u7, u8, u9, -⟩ := w_cal hw c hc
  obtain ⟨u9a, u9b⟩ := u9 (by omega)
  rw [show (g.2.2.2.2.2 17) c - 1 = o by omega] at u9a u9b
  have ho : o < (g.1 0 4) := by omega
  obtain ⟨o1, o2, o3, o4, -⟩ := w_obj hw o ho
  obtain ⟨s1, s2, s3, s4, s5, s6⟩ := ca_s hw hc hob
  obtain ⟨b1, b2, b3⟩ := (w_book hw).2.2.2.2 ((g.2.2.2.2.2 13) o) o4
  obtain ⟨b4, b5, b6, b7⟩ := b3 ((g.2.2.2.2.2 16) c) u9a
  obtain ⟨a1, a2, ⟨t, q0, q1, q2, q3, q4, q5, q6, q7, q8, q9, q10, q11, q12, q13, q14, q15, q16⟩⟩ := s_cal hw.1 hc
  rw [if_neg (by omega), show (g.2.2.2.2.2 17) c - 1 = o by omega] at q3
  obtain ⟨c1, c2, c3, c4, c5, c6, -⟩ := s_thg hw.1 ho
  have hthg : pv ((g.1 5) o) = .ref ((g.1 5) o) := if_neg (by omega)
  rw [hthg] at q3
  obtain ⟨bk1, bk2, bk3, -⟩ := s_bk0 hw.1
  have hF : ∀ k, k < L → isB (F k) := fun k hk => (hr.2.2.2.2.2.2.2.2 k hk).2
  obtain ⟨f, hf1, hf2⟩ := x_args hw o4 u9a
  rw [sv_range] at hp
  have hwH : World K tb g r x (hnew h 20 ((g.2.2.2.2.2 10) (8 * (g.2.2.2.2.2 13) o + (g.2.2.2.2.2 16) c)) f) := ⟨sim_new hw.1 _ _ _, hw.2⟩
  have H1 : (hnew h 20 ((g.2.2.2.2.2 10) (8 * (g.2.2.2.2.2 13) o + (g.2.2.2.2.2 16) c)) f).1 = h.1 + 1 := rfl
  have H2 : (hnew h 20 ((g.2.2.2.2.2 10) (8 * (g.2.2.2.2.2 13) o + (g.2.2.2.2.2 16) c)) f).2.1 = h.2.1 + (g.2.2.2.2.2 10) (8 * (g.2.2.2.2.2 13) o + (g.2.2.2.2.2 16) c) := rfl
  have H3 : (hnew h 20 ((g.2.2.2.2.2 10) (8 * (g.2.2.2.2.2 13) o + (g.2.2.2.2.2 16) c)) f).2.2 h.1 = (20, (g.2.2.2.2.2 10) (8 * (g.2.2.2.2.2 13) o + (g.2.2.2.2.2 16) c), f) := hn_s _ _ _
  have H4 : ∀ a, a ≠ h.1 → (hnew h 20 ((g.2.2.2.2.2 10) (8 * (g.2.2.2.2.2 13) o + (g.2.2.2.2.2 16) c)) f).2.2 a = h.2.2 a := fun a ha => hn_o _ _ _ ha
  generalize hnew h 20 ((g.2.2.2.2.2 10) (8 * (g.2.2.2.2.2 13) o + (g.2.2.2.2.2 16) c)) f = H at *
  have hb2 := hr.2.1
  have hrH : RD H b L F := rd_c hr (by omega) (H4 b (by omega)) (H4 (b + 2) (by omega))
  obtain ⟨mm, hmm⟩ : ∃ mm, mm = 8 * (g.2.2.2.2.2 13) o + (g.2.2.2.2.2 16) c := ⟨_, rfl⟩
  rw [← hmm] at s3 s5 s6 hp hf1 H2 H3 b7
  obtain ⟨N, hN⟩ : ∃ N, N = (g.2.2.2.2.2 10) mm := ⟨_, rfl⟩
  rw [← hN] at s5 s6 hp hf1 H2 H3 b7
  have hsc0 : SC (cmR r 0) r := sc_cm
  obtain ⟨rD, e1, e2, e3, e4, e5⟩ := l_dry (D := nI ((g.2.2.2.2.2 15) c)) (c := c) (X1 := nI (A + 3)) (mm := mm) (N := N) (sr := fun a => (r.2.2.1 86) (3 * mm + a)) hw hF s6 s5 s3 (fun k hk => ⟨rfl, b7 k hk⟩) N 0 n 3 [] (cmR r 0) (by omega) hp (Nat.le_refl _) hsc0 hmr rfl (by decide)
  obtain ⟨ra, hra⟩ : ∃ ra, ra = cmR (raT rD (A + 3)) 0 := ⟨_, rfl⟩
  have hscA : SC ra r := by
    rw [hra]
    exact sc_t sc_cm (sc_t sc_at e1)
  have hrsA : RSi ra A L F 3 (g.1 0 1) [] := by
    rw [hra]
    exact ⟨⟨rfl, e4.2.1, e4.2.2.1, e4.2.2.2⟩, rfl, fun i hi => absurd hi (by show ¬ i < 0; omega)⟩
  have hmo := fun d (H : pheap) (hH : 146 ≤ H.1) Q => r_methodOf (d := d) (Q := Q) hw hH hc hob
  rw [← hmm] at hmo
  have hnd := e1.1 32 (by decide) (by decide) (by decide) (by decide) (by decide) (by decide) (by decide) (by decide)
  rw [nn1] at hnd
  obtain ⟨g', x', h', ⟨y1, y2, y3⟩, y4, y5, y6⟩ := come_ok (b := b) (sa := h.1) (N := N) (sr := fun a => (r.2.2.1 86) (3 * mm + a)) (ce0 := 603 + 3 * c) (Dn := (g.2.2.2.2.2 15) c) (ra := ra) (A := A) (j := c) hwH u4 (by omega) hic hb hrH (by rw [H4 b (by omega)]; exact h5) (by rw [H4 b (by omega)]; exact h2) ⟨hh, by omega, sim_top hw.1 (Nat.le_refl _)⟩ (by rw [H3]; exact ⟨rfl, rfl, hf1⟩) s6 b7 hp (Nat.le_refl _) ⟨by omega, by omega⟩ (rel_0 hscA) hrsA
  have hgs := y5
  obtain ⟨G1, G2, G3, G4, G5, G6, G7⟩ := y5
  have g1 : (g'.1 6) = (g.1 6) := G2 _ (by decide) (by decide)
  have g2 : (g'.1 4) = (g.1 4) := G2 _ (by decide) (by decide)
  have g3 : (g'.1 0 5) = (g.1 0 5) := G1 _ (by decide)
  have g4 : (g'.1 0 3) = (g.1 0 3) := G1 _ (by decide)
  have g5 : (g'.2.2.2.2.2 14) = (g.2.2.2.2.2 14) := G5 _ (by decide) (by decide)
  have g6 : (g'.2.2.2.2.2 15) = (g.2.2.2.2.2 15) := G5 _ (by decide) (by decide)
  have g7 : (g'.2.2.2.2.2 17) = (g.2.2.2.2.2 17) := G5 _ (by decide) (by decide)
  have g8 : (g'.2.2.2.2.2 13) = (g.2.2.2.2.2 13) := G5 _ (by decide) (by decide)
  have g9 : (g'.2.2.2.2.2 16) = (g.2.2.2.2.2 16) := G5 _ (by decide) (by decide)
  have g10 : (g'.2.2.2.2.2 10) = (g.2.2.2.2.2 10) := G5 _ (by decide) (by decide)
  have g11 : (g'.2.2.2.2.1 2) = (g.2.2.2.2.1 2) := congrFun G4 _
  have g12 : (g'.2.2.2.2.1 3) = (g.2.2.2.2.1 3) := congrFun G4 _
  have hcx : x'.2 0 = x'.2 0 := rfl
  rcases y6 with ⟨z1, z2, z3⟩ | ⟨z1, v', ra', as, ⟨k1, k2, ⟨G', k3⟩, k4, k5, k6, k7, k8, k9, k10⟩, z3⟩
  · -- NODES lack
    have wD : World K tb g' rD x' h' := w_sc z2 e1
    obtain ⟨w1, w2⟩ := lone_ok (nt := 902) (i := (g.2.2.2.2.2 15) c) (e := eSort (gP g' h'.1 3 (0, 0, 0) (5, loF 902 ((g.2.2.2.2.2 15) c))) (flR rD 902 ((g.2.2.2.2.2 15) c)) c) wD (by rw [g4]; exact u4)
    have hEQ : EQ (gP g' h'.1 3 (0, 0, 0) (5, loF 902 ((g.2.2.2.2.2 15) c))) (flR rD 902 ((g.2.2.2.2.2 15) c)) c := eq_gs (g' := gP g' h'.1 3 (0, 0, 0) (5, loF 902 ((g.2.2.2.2.2 15) c))) hgs heq (by rw [sc_row (sc_t sc_fl e1) 125 (by decide)]) hl hbg
    obtain ⟨g2', r2, x2, h2', p1, p2, p3, p4, p5, p6⟩ := endDeed_ok w1 (show c < (g'.1 0 5) by rw [g3]; exact hc) (eq_ep hEQ) w2
    have p21 := p2.2.2.2.1
    have p22 := p2.2.2.2.2.1
    have p23 := p2.2.2.2.2.2.1
    rw [lnH_1] at p21 p22
    have lu : (lnH h' 902 ((g.2.2.2.2.2 15) c)).2.1 = h'.2.1 + 5 := rfl
    have eb : eB 0 = 73 := rfl
    rw [lu, eb] at p23
    refine ⟨g2', r2, x2, h2', p1, ⟨by omega, by omega, by omega⟩, fun d r0 Q Z => ?_, fun d H' Q V3 V4 V5 V6 V7 V8 hH => ?_⟩
    · obtain ⟨a1', a2', ⟨t', q0', q1', q2', -⟩⟩ := s_cal z2.1 (show c < (g'.1 0 5) by rw [g3]; exact hc)
      rw [g1] at a1' a2' t' q2'
      rw [g2, g6] at q2'
      have x1 := fun Q => hf2 (d + 40) r0 Q
      have x2 := fun Q => z3 (d + 8) r0 Q
      have x3 := fun Q => x_lone (d := d + 40) (r0 := r0) (nt := 902) (Q := Q) z2 (i := (g.2.2.2.2.2 15) c) (by rw [g4]; exact u4)
      rw [g2] at x3
      have x4 := fun Q => p5 (d + 1) r0 Q
      have e107 : (gP g' h'.1 3 (0, 0, 0) (5, loF 902 ((g.2.2.2.2.2 15) c))).1 6 c = (g.1 6) c := by
        show (g'.1 6) c = _
        rw [g1]
      have hh' := sim_146 z2.1
      have pv0 : pv 0 = .null := rfl
      have pvh : pv h'.1 = .ref h'.1 := if_neg (by omega)
      rw [e107, pv0, pvh] at x4
      simp (disch := first | exact c1_i _ | exact c1_r _ | exact c1_n | exact c1_m | omega | assumption | (apply ac_l; omega) | (apply ac_r; omega) | decide | exact Or.inl rfl) only [e_138_90, e_138_90n, e_138_91, e_138_91n, e_138_92, e_138_95, e_138_95n, e_138_96, e_138_96n, e_138_97, e_138_100, e_138_100n, e_138_101, e_138_104, e_138_107, e_138_107n, e_138_108, e_138_111, e_138_114, e_138_117, e_138_117n, e_138_118, e_138_118n, e_138_119n, e_138_119, e_138_122, e_138_122n, e_138_123, e_138_123n, e_138_124, e_138_125, e_138_128, e_138_128n, e_138_129, e_138_132, e_138_135, e_138_138, e_138_147, Option.toList_some, Option.toList_none, List.cons_append, List.nil_append, catS_cons, catS_nil, cat_int, cat_long, cat_ref, cat_null, c1_i, c1_r, c1_n, c1_m, true_and, and_true, and_self, putR_1, putR_u, eq_self, Nat.reduceLT, Nat.reduceLeDiff, Nat.reduceAdd, Nat.reduceEqDiff, vk_i, vk_l, vk_r, vk_n, vk_0, vk_1, if_true, if_false, not_true_eq_false, not_false_eq_true, false_and, and_false, ne_eq, true_or, or_true, ite_not, reduceCtorEq, putX_1, putX_u, putX_hi, hset_Xhi, px_5, xf_5_0, xf_5_1, xI_5_1, xf_5_2, xR_0, xf_5_3, xI_5_3, xf_5_4, xI_5_4, xf_5_5, xf_5_6, xI_5_6, xf_5_7, xf_5_8, xf_5_9, xf_5_10, xf_5_11, xf_5_12, xf_5_13, xf_5_14, xf_5_15, xI_5_15, px_6, xA_6, px_18, xA_18, px_19, xf_19_0, xI_19_0, xf_19_1, xR_1, xf_19_2, xI_19_2, px_20, xf_20_0, xI_20_0, xf_20_1, xR_2, xf_20_2, xI_20_2, px_21, xf_21_0, xI_21_0, xf_21_1, xR_3, xf_21_2, xI_21_2, px_22, xf_22_0, xI_22_0, xf_22_1, xR_4, xf_22_2, xI_22_2, px_23, xf_23_0, xI_23_0, xf_23_1, xR_5, xf_23_2, xI_23_2, px_24, xf_24_0, xI_24_0, xf_24_1, xR_6, xf_24_2, xI_24_2, px_25, xf_25_0, xI_25_0, xf_25_1, xI_25_1, xf_25_2, xf_25_3, xI_25_3, xf_25_4, xf_25_5, xf_25_6, px_26, xA_26, px_27, px_28, xA_28, px_29, xA_29, px_30, xA_30, px_31, xA_31, px_32, xA_32, px_33, xA_33, px_34, xA_34, px_35, xA_35, px_36, xA_36, px_37, xA_37, px_38, xA_38, px_39, xA_39, px_40, xA_40, px_41, xA_41, px_42, xA_42, px_43, xA_43, px_44, xA_44, px_45, xA_45, px_46, xA_46, px_47, xA_47, px_48, xA_48, px_49, xA_49, px_50, xA_50, px_51, xA_51, px_52, xA_52, px_53, xA_53, px_54, xA_54, px_55, xA_55, px_56, xA_56, px_57, xA_57, px_58, xA_58, px_59, xA_59, px_60, xA_60, px_61, xA_61, px_62, xA_62, px_63, xA_63, px_64, xA_64, px_65, xA_65, px_66, xA_66, px_67, xA_67, px_68, xA_68, px_69, xA_69, px_70, xf_70_0, xI_70_0, xf_70_1, xI_70_1, xf_70_2, xI_70_2, xf_70_3, xf_70_4, px_71, xA_71, px_72, xA_72, ni_ixL, ni_clL, ni_add, ni_mul, ni_lt, ni_le, ni_eq, ni_clamp, ni_ix, ni_lt0, ni_0le, ni_ltL, ni_Llt, ni_leL, ni_Lle, ni_eqL, ni_addL, ni_Ladd, ni_mulL, ni_Lmul, ni_subL, ni_sub, ni_Lsub, le_t, le_f, lt_t, lt_f, eq_f, il_lt, il_l0, il_g0, il_l1, il_g1, il_l2, il_g2, il_l3, il_g3, il_l4, il_g4, il_l5, il_g5, il_l7, il_g7, il_l8, il_g8, il_l9, il_g9, il_l10, il_g10, il_l15, il_g15, il_l20, il_g20, il_l23, il_g23, il_l24, il_g24, il_l60, il_g60, il_l100, il_g100, il_l999, il_g999, il_l1000, il_g1000, putR_lo, hset_lo, putR_lt hh, rd_hi, wr_hi, hs_1, hs_s, hs_o, uv_s, uv_o, pv_0, pv_n, i1_0, bs_0, bs_1, im_lt, im_ge, im_eq, ni_em, t, q2, q3, q4, c3, c6, x1, x2, x3, x4, t', q2', rd_bk0 bk1, bk3, lnH_1]
    · have hh := hH
      have f1 := fun Q => e5 (d + 4) H' Q V3 V4 (.int V5) hH
      have f2 := fun Q => r_fails (d := d + 6) (h := H') (r := rD) (nt := 902) (i := (g.2.2.2.2.2 15) c) (Q := Q) hH
      have f3 := fun Q => p6 (d + 1) H' Q hH
      have hgt : ¬ nI (g.1 0 1) + nI l'.length ≤ 60 := by
        rw [ni_add]
        show ¬ nI ((g.1 0 1) + l'.length) ≤ nI 60
        rw [ni_le (by omega) (by omega)]
        omega
      have f0 := fun Q => hmo (d + 7) H' hH Q
      have f1' : ∀ Q, Go (d + 9) 269 161 [.ref 73, .int (nI c), .int (nI ((g.2.2.2.2.2 15) c)), V3, V4, .int V5, .int (nI mm), .int (nI (A + 3)), .int 0] [] (putR (sI r 90 0) H') Q = _ := f1
      have hat := hmr.1
      simp (disch := first | exact c1_i _ | exact c1_r _ | exact c1_n | exact c1_m | omega | assumption | (apply ac_l; omega) | (apply ac_r; omega) | decide | exact Or.inl rfl) only [e_269_140, e_269_140n, e_269_141, e_269_142, e_269_145, e_269_147, e_269_147n, e_269_148, e_269_151, e_269_153, e_269_153n, e_269_154, e_269_155, e_269_158, e_269_159, e_269_200, e_269_200n, e_269_201, e_269_204, e_269_204n, e_269_205, e_269_208, e_269_209, e_269_211, e_269_214, e_269_214n, e_269_215, e_269_218, e_269_219, e_269_222, e_269_222n, e_269_223, e_269_224, e_269_227, Option.toList_some, Option.toList_none, List.cons_append, List.nil_append, catS_cons, catS_nil, cat_int, cat_long, cat_ref, cat_null, c1_i, c1_r, c1_n, c1_m, true_and, and_true, and_self, putR_1, putR_u, eq_self, Nat.reduceLT, Nat.reduceLeDiff, Nat.reduceAdd, Nat.reduceEqDiff, vk_i, vk_l, vk_r, vk_n, vk_0, vk_1, if_true, if_false, not_true_eq_false, not_false_eq_true, false_and, and_false, ne_eq, true_or, or_true, ite_not, reduceCtorEq, pr_73, pr_74, pr_75, pr_76, pr_77, pr_78, pr_79, pr_80, pr_81, pr_82, pr_83, pr_84, pr_85, pr_86, pr_87, pr_88, pr_89, pr_90, pr_91, pr_92, pr_93, pr_94, pr_95, pr_96, pr_97, pr_98, pr_99, pr_100, pr_101, pr_102, pr_103, pr_104, pr_105, pr_106, pr_107, pr_108, pr_109, pr_110, pr_111, pr_112, pr_113, pr_114, pr_115, pr_116, pr_117, pr_118, pr_119, pr_120, pr_121, pr_122, pr_123, pr_124, pr_125, pr_126, pr_127, pr_128, pr_129, pr_130, pr_131, pr_132, pr_133, pr_134, pr_135, pr_136, pr_137, pr_138, pr_139, pr_140, pr_141, pr_142, pr_143, pr_144, pr_145, rf_0, rf_1, hI_1, rf_2, hI_2, rf_3, hI_3, rf_4, hI_4, rf_5, hI_5, rf_6, hI_6, rf_7, hI_7, rf_8, rf_9, rf_10, rf_11, hI_11, rf_12, rf_13, rf_14, rf_15, rf_16, hI_16, rf_17, rf_18, rf_19, rf_20, rf_21, rf_22, rf_23, hI_23, rf_24, rf_25, rf_26, rf_27, rf_28, hI_28, rf_29, rf_30, hI_30, rf_31, rf_32, hI_32, rf_33, hI_33, rf_34, rf_35, rf_36, rf_37, rf_38, rf_39, rf_40, rf_41, hI_41, rf_42, rf_43, rf_44, rf_45, rf_46, rf_47, rf_48, rf_49, rf_50, hI_50, rf_51, rf_52, rf_53, rf_54, rf_55, rf_56, rf_57, hI_57, rf_58, rf_59, rf_60, rf_61, rf_62, rf_63, rf_64, rf_65, rf_66, rf_67, rf_68, rf_69, rf_70, rf_71, rf_72, rf_73, rf_74, rf_75, hI_75, rf_76, rf_77, rf_78, hI_78, rf_79, rf_80, rf_81, hI_81, rf_82, hI_82, rf_83, rf_84, hI_84, rf_85, rf_86, rf_87, hI_87, rf_88, hI_88, rf_89, hI_89, rf_90, hI_90, rf_91, rf_92, rf_93, rf_94, hI_94, rf_95, hI_95, rf_96, rf_97, rf_98, rf_99, rf_100, hset_W, hA_74, hL_75, hA_76, hL_77, hA_78, hL_79, hA_80, hL_81, hA_82, hL_83, hA_84, hA_85, hA_86, hL_87, hA_88, hA_89, hA_90, hA_91, hA_92, hA_93, hA_94, hA_95, hA_96, hA_97, hA_98, hA_99, hA_100, hA_101, hA_102, hA_103, hA_104, hA_105, hL_106, hA_107, hA_108, hA_109, hA_110, hA_111, hA_112, hA_113, hA_114, hA_115, hA_116, hA_117, hA_118, hA_119, hA_120, hA_121, hA_122, hA_123, hA_124, hA_125, hA_126, hA_127, hA_128, hA_129, hA_130, hA_131, hA_132, hA_133, hA_134, hA_135, hA_136, hA_137, hA_138, hA_139, hA_140, hA_141, hA_142, hA_143, hA_144, hA_145, ni_ixL, ni_clL, ni_add, ni_mul, ni_lt, ni_le, ni_eq, ni_clamp, ni_ix, ni_lt0, ni_0le, ni_ltL, ni_Llt, ni_leL, ni_Lle, ni_eqL, ni_addL, ni_Ladd, ni_mulL, ni_Lmul, ni_subL, ni_sub, ni_Lsub, le_t, le_f, lt_t, lt_f, eq_f, il_lt, il_l0, il_g0, il_l1, il_g1, il_l2, il_g2, il_l3, il_g3, il_l4, il_g4, il_l5, il_g5, il_l7, il_g7, il_l8, il_g8, il_l9, il_g9, il_l10, il_g10, il_l15, il_g15, il_l20, il_g20, il_l23, il_g23, il_l24, il_g24, il_l60, il_g60, il_l100, il_g100, il_l999, il_g999, il_l1000, il_g1000, r_in, putR_lt hh, sA_1, sA_s, i1_0, bs_0, bs_1, im_lt, im_ge, im_eq, ni_em, f0, hat, f1', hnd, e2, hgt, f2, f3]
  · -- there is room
    have hst : ra'.2.2.1 118 = v'.2.2.1 118 := k6.trans ((sc_row hscA 118 (by decide)).trans (k2.2.2.1 _ (by decide) (by decide) (by decide)).symm)
    have wA : World K tb g' ra' x' h' := w_sc k1 (rel_sc k3 (fun c' y1 ⟨k, y2, y3⟩ => by
      rcases y1 with y1 | y1
      · omega
      · omega) hst)
    have hrowA : ∀ a, a ≠ 92 → a ≠ 134 → a ≠ 135 → a ≠ 136 → a ≠ 137 → a ≠ 133 → a ≠ 138 → a ≠ 145 → a ≠ 131 → a ≠ 132 → a ≠ 88 → a ≠ 89 → a ≠ 95 → a ≠ 118 → ra'.2.2.1 a = r.2.2.1 a := fun a q0 q1 q2 q3 q4 q5 q6 q7 q8 q9 q10 q11 q12 q13 => (k3.1.2.2.1 a q1 q2 q3 q4 q5 q6 q7 q8 q9 q10 q11 q12 q13).trans (k2.2.2.1 a q0 q10 q11)
    have hbs : bsO g' c = 603 + 3 * c := by
      unfold bsO
      rw [g5, g6, if_neg hl]
    have hCA : CA K g' ra' h' c o H.1 N as (fun a => (r.2.2.1 86) (3 * mm + a)) := by
      refine ⟨by rw [g3]; exact hc, by rw [g7]; exact hob, ⟨⟨k9, k10, k4.1.1, k4.1.2, s6, by rw [hbs]; omega⟩, fun k hk => ?_⟩, by rw [g8, g9, g10, ← hmm, hN], fun k hk => ?_⟩
      · obtain ⟨p1, p2, p3⟩ := k4.2 k hk
        obtain ⟨p4, p5⟩ := k5 k hk
        rw [hbs]
        exact ⟨p1, p2, by rw [g11, g12]; exact b7 k hk, p4, p5⟩
      · rw [g8, g9, ← hmm, hrowA 86 (by decide) (by decide) (by decide) (by decide) (by decide) (by decide) (by decide) (by decide) (by decide) (by decide) (by decide) (by decide) (by decide) (by decide)]
    have hEQ : EQ g' ra' c := eq_gs hgs heq (by rw [hrowA 125 (by decide) (by decide) (by decide) (by decide) (by decide) (by decide) (by decide) (by decide) (by decide) (by decide) (by decide) (by decide) (by decide) (by decide)]) hl hbg
    obtain ⟨g2', r2, x2, h2', p1, ⟨-, -, p2, p3, p4⟩, p5, p6⟩ := perform_ok wA hCA k8 hEQ
    refine ⟨g2', r2, x2, h2', p1, ⟨by omega, by omega, by omega⟩, fun d r0 Q Z => ?_, fun d H' Q V3 V4 V5 V6 V7 V8 hH => ?_⟩
    · obtain ⟨a1', a2', ⟨t', -⟩⟩ := s_cal wA.1 (show c < (g'.1 0 5) by rw [g3]; exact hc)
      rw [g1] at a1' a2' t'
      have x1 := fun Q => hf2 (d + 40) r0 Q
      have x2 := fun Q => z3 (d + 8) r0 Q
      have x4 := fun Q => p5 d r0 Q
      rw [g1] at x4
      have hh' := sim_146 wA.1
      simp (disch := first | exact c1_i _ | exact c1_r _ | exact c1_n | exact c1_m | omega | assumption | (apply ac_l; omega) | (apply ac_r; omega) | decide | exact Or.inl rfl) only [e_138_90, e_138_90n, e_138_91, e_138_91n, e_138_92, e_138_95, e_138_95n, e_138_96, e_138_96n, e_138_97, e_138_100, e_138_100n, e_138_101, e_138_104, e_138_107, e_138_107n, e_138_108, e_138_111, e_138_114, e_138_117, e_138_117n, e_138_118, e_138_118n, e_138_119n, e_138_119, e_138_141, e_138_141n, e_138_142, e_138_142n, e_138_143, e_138_143n, e_138_144, e_138_147, Option.toList_some, Option.toList_none, List.cons_append, List.nil_append, catS_cons, catS_nil, cat_int, cat_long, cat_ref, cat_null, c1_i, c1_r, c1_n, c1_m, true_and, and_true, and_self, putR_1, putR_u, eq_self, Nat.reduceLT, Nat.reduceLeDiff, Nat.reduceAdd, Nat.reduceEqDiff, vk_i, vk_l, vk_r, vk_n, vk_0, vk_1, if_true, if_false, not_true_eq_false, not_false_eq_true, false_and, and_false, ne_eq, true_or, or_true, ite_not, reduceCtorEq, putX_1, putX_u, putX_hi, hset_Xhi, px_5, xf_5_0, xf_5_1, xI_5_1, xf_5_2, xR_0, xf_5_3, xI_5_3, xf_5_4, xI_5_4, xf_5_5, xf_5_6, xI_5_6, xf_5_7, xf_5_8, xf_5_9, xf_5_10, xf_5_11, xf_5_12, xf_5_13, xf_5_14, xf_5_15, xI_5_15, px_6, xA_6, px_18, xA_18, px_19, xf_19_0, xI_19_0, xf_19_1, xR_1, xf_19_2, xI_19_2, px_20, xf_20_0, xI_20_0, xf_20_1, xR_2, xf_20_2, xI_20_2, px_21, xf_21_0, xI_21_0, xf_21_1, xR_3, xf_21_2, xI_21_2, px_22, xf_22_0, xI_22_0, xf_22_1, xR_4, xf_22_2, xI_22_2, px_23, xf_23_0, xI_23_0, xf_23_1, xR_5, xf_23_2, xI_23_2, px_24, xf_24_0, xI_24_0, xf_24_1, xR_6, xf_24_2, xI_24_2, px_25, xf_25_0, xI_25_0, xf_25_1, xI_25_1, xf_25_2, xf_25_3, xI_25_3, xf_25_4, xf_25_5, xf_25_6, px_26, xA_26, px_27, px_28, xA_28, px_29, xA_29, px_30, xA_30, px_31, xA_31, px_32, xA_32, px_33, xA_33, px_34, xA_34, px_35, xA_35, px_36, xA_36, px_37, xA_37, px_38, xA_38, px_39, xA_39, px_40, xA_40, px_41, xA_41, px_42, xA_42, px_43, xA_43, px_44, xA_44, px_45, xA_45, px_46, xA_46, px_47, xA_47, px_48, xA_48, px_49, xA_49, px_50, xA_50, px_51, xA_51, px_52, xA_52, px_53, xA_53, px_54, xA_54, px_55, xA_55, px_56, xA_56, px_57, xA_57, px_58, xA_58, px_59, xA_59, px_60, xA_60, px_61, xA_61, px_62, xA_62, px_63, xA_63, px_64, xA_64, px_65, xA_65, px_66, xA_66, px_67, xA_67, px_68, xA_68, px_69, xA_69, px_70, xf_70_0, xI_70_0, xf_70_1, xI_70_1, xf_70_2, xI_70_2, xf_70_3, xf_70_4, px_71, xA_71, px_72, xA_72, ni_ixL, ni_clL, ni_add, ni_mul, ni_lt, ni_le, ni_eq, ni_clamp, ni_ix, ni_lt0, ni_0le, ni_ltL, ni_Llt, ni_leL, ni_Lle, ni_eqL, ni_addL, ni_Ladd, ni_mulL, ni_Lmul, ni_subL, ni_sub, ni_Lsub, le_t, le_f, lt_t, lt_f, eq_f, il_lt, il_l0, il_g0, il_l1, il_g1, il_l2, il_g2, il_l3, il_g3, il_l4, il_g4, il_l5, il_g5, il_l7, il_g7, il_l8, il_g8, il_l9, il_g9, il_l10, il_g10, il_l15, il_g15, il_l20, il_g20, il_l23, il_g23, il_l24, il_g24, il_l60, il_g60, il_l100, il_g100, il_l999, il_g999, il_l1000, il_g1000, putR_lo, hset_lo, putR_lt hh, rd_hi, wr_hi, hs_1, hs_s, hs_o, uv_s, uv_o, pv_0, pv_n, i1_0, bs_0, bs_1, im_lt, im_ge, im_eq, ni_em, t, q2, q3, q4, c3, c6, x1, x2, x4, t', rd_bk0 bk1, bk3]
    · have hh := hH
      have f0 := fun Q => hmo (d + 7) H' hH Q
      have f1 := fun Q => e5 (d + 4) H' Q V3 V4 (.int V5) hH
      have f1' : ∀ Q, Go (d + 9) 269 161 [.ref 73, .int (nI c), .int (nI ((g.2.2.2.2.2 15) c)), V3, V4, .int V5, .int (nI mm), .int (nI (A + 3)), .int 0] [] (putR (sI r 90 0) H') Q = _ := f1
      have f3 := fun Q => p6 (d + 0) H' Q hH
      have hle : nI (g.1 0 1) + nI l'.length ≤ 60 := by
        rw [ni_add]
        show nI ((g.1 0 1) + l'.length) ≤ nI 60
        rw [ni_le (by omega) (by omega)]
        omega
      have hat := hmr.1
      have f4 := fun Q => l_tks (c := c) (N := N) (mm := mm) (Dn := (g.2.2.2.2.2 15) c) (X1 := nI (A + 3)) (by omega) s6 s3 N 0 ra ra' (by omega) (by rw [sc_row hscA 85 (by decide)]; exact s5) (fun k hk => by rw [sc_row hscA 86 (by decide)]) k7 (d + 4) H' Q V3 V4 (.int V5) hH
      rw [hra] at f4
      have f4' : ∀ Q, Go (d + 9) 269 242 [.ref 73, .int (nI c), .int (nI ((g.2.2.2.2.2 15) c)), V3, V4, .int V5, .int (nI mm), .int (nI (A + 3)), .int 0] [] (putR (sI (sI rD 88 (nI (A + 3))) 90 0) H') Q = _ := f4
      simp (disch := first | exact c1_i _ | exact c1_r _ | exact c1_n | exact c1_m | omega | assumption | (apply ac_l; omega) | (apply ac_r; omega) | decide | exact Or.inl rfl) only [e_269_140, e_269_140n, e_269_141, e_269_142, e_269_145, e_269_147, e_269_147n, e_269_148, e_269_151, e_269_153, e_269_153n, e_269_154, e_269_155, e_269_158, e_269_159, e_269_200, e_269_200n, e_269_201, e_269_204, e_269_204n, e_269_205, e_269_208, e_269_209, e_269_211, e_269_228, e_269_228n, e_269_229, e_269_231, e_269_234, e_269_234n, e_269_235, e_269_236, e_269_239, e_269_240, e_269_288, e_269_288n, e_269_289, e_269_290, e_269_293, Option.toList_some, Option.toList_none, List.cons_append, List.nil_append, catS_cons, catS_nil, cat_int, cat_long, cat_ref, cat_null, c1_i, c1_r, c1_n, c1_m, true_and, and_true, and_self, putR_1, putR_u, eq_self, Nat.reduceLT, Nat.reduceLeDiff, Nat.reduceAdd, Nat.reduceEqDiff, vk_i, vk_l, vk_r, vk_n, vk_0, vk_1, if_true, if_false, not_true_eq_false, not_false_eq_true, false_and, and_false, ne_eq, true_or, or_true, ite_not, reduceCtorEq, pr_73, pr_74, pr_75, pr_76, pr_77, pr_78, pr_79, pr_80, pr_81, pr_82, pr_83, pr_84, pr_85, pr_86, pr_87, pr_88, pr_89, pr_90, pr_91, pr_92, pr_93, pr_94, pr_95, pr_96, pr_97, pr_98, pr_99, pr_100, pr_101, pr_102, pr_103, pr_104, pr_105, pr_106, pr_107, pr_108, pr_109, pr_110, pr_111, pr_112, pr_113, pr_114, pr_115, pr_116, pr_117, pr_118, pr_119, pr_120, pr_121, pr_122, pr_123, pr_124, pr_125, pr_126, pr_127, pr_128, pr_129, pr_130, pr_131, pr_132, pr_133, pr_134, pr_135, pr_136, pr_137, pr_138, pr_139, pr_140, pr_141, pr_142, pr_143, pr_144, pr_145, rf_0, rf_1, hI_1, rf_2, hI_2, rf_3, hI_3, rf_4, hI_4, rf_5, hI_5, rf_6, hI_6, rf_7, hI_7, rf_8, rf_9, rf_10, rf_11, hI_11, rf_12, rf_13, rf_14, rf_15, rf_16, hI_16, rf_17, rf_18, rf_19, rf_20, rf_21, rf_22, rf_23, hI_23, rf_24, rf_25, rf_26, rf_27, rf_28, hI_28, rf_29, rf_30, hI_30, rf_31, rf_32, hI_32, rf_33, hI_33, rf_34, rf_35, rf_36, rf_37, rf_38, rf_39, rf_40, rf_41, hI_41, rf_42, rf_43, rf_44, rf_45, rf_46, rf_47, rf_48, rf_49, rf_50, hI_50, rf_51, rf_52, rf_53, rf_54, rf_55, rf_56, rf_57, hI_57, rf_58, rf_59, rf_60, rf_61, rf_62, rf_63, rf_64, rf_65, rf_66, rf_67, rf_68, rf_69, rf_70, rf_71, rf_72, rf_73, rf_74, rf_75, hI_75, rf_76, rf_77, rf_78, hI_78, rf_79, rf_80, rf_81, hI_81, rf_82, hI_82, rf_83, rf_84, hI_84, rf_85, rf_86, rf_87, hI_87, rf_88, hI_88, rf_89, hI_89, rf_90, hI_90, rf_91, rf_92, rf_93, rf_94, hI_94, rf_95, hI_95, rf_96, rf_97, rf_98, rf_99, rf_100, hset_W, hA_74, hL_75, hA_76, hL_77, hA_78, hL_79, hA_80, hL_81, hA_82, hL_83, hA_84, hA_85, hA_86, hL_87, hA_88, hA_89, hA_90, hA_91, hA_92, hA_93, hA_94, hA_95, hA_96, hA_97, hA_98, hA_99, hA_100, hA_101, hA_102, hA_103, hA_104, hA_105, hL_106, hA_107, hA_108, hA_109, hA_110, hA_111, hA_112, hA_113, hA_114, hA_115, hA_116, hA_117, hA_118, hA_119, hA_120, hA_121, hA_122, hA_123, hA_124, hA_125, hA_126, hA_127, hA_128, hA_129, hA_130, hA_131, hA_132, hA_133, hA_134, hA_135, hA_136, hA_137, hA_138, hA_139, hA_140, hA_141, hA_142, hA_143, hA_144, hA_145, ni_ixL, ni_clL, ni_add, ni_mul, ni_lt, ni_le, ni_eq, ni_clamp, ni_ix, ni_lt0, ni_0le, ni_ltL, ni_Llt, ni_leL, ni_Lle, ni_eqL, ni_addL, ni_Ladd, ni_mulL, ni_Lmul, ni_subL, ni_sub, ni_Lsub, le_t, le_f, lt_t, lt_f, eq_f, il_lt, il_l0, il_g0, il_l1, il_g1, il_l2, il_g2, il_l3, il_g3, il_l4, il_g4, il_l5, il_g5, il_l7, il_g7, il_l8, il_g8, il_l9, il_g9, il_l10, il_g10, il_l15, il_g15, il_l20, il_g20, il_l23, il_g23, il_l24, il_g24, il_l60, il_g60, il_l100, il_g100, il_l999, il_g999, il_l1000, il_g1000, r_in, putR_lt hh, sA_1, sA_s, i1_0, bs_0, bs_1, im_lt, im_ge, im_eq, ni_em, f0, hat, f1', hnd, e2, hle, f4', f3]
end
