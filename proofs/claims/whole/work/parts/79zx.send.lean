section
variable {K : Nat → pcell} {tb : Nat} {g g' g1 g2 g0 : gS} {r r' r0 r1 r2 s s' : rS} {x x' x1 x2 xb : xS} {h h' h1 h2 h0 : pheap} {a n k m i j c p q d A o b w z kp Z B L : Nat} {Q : Option Value → pheap → Prop} {e v nt : Int32} {f F G : Nat → Int32}
/-- an answer on the shelf goes again -/
theorem snd_ans (hw : World K tb g r x h) (hc : c < (g.1 0 5)) (hl : (g.2.2.2.2.2 14) c ≠ (g.2.2.2.2.2 15) c) (hsh : (g.2.2.2.2.2 20) c ≠ 0) : ∃ g' r' x' h', World K tb g' r' x' h' ∧ h'.1 = h.1 ∧ h'.2.1 = h.2.1 ∧
    (∀ d r0 Q, Go (d + 5) 100 0 [.ref 5, .ref ((g.1 6) c), .int 1, .ref ((g.2.2.2.2.2 20) c), mk0, mk0, mk0, mk0] [] (putR r0 (putX x h)) Q = Q none (putR r0 (putX x' h'))) ∧ (∀ d (H : pheap) Q, 146 ≤ H.1 → Go (d + 5) 244 0 [.ref 73, .int (nI c)] [] (putR r H) Q = Q none (putR r' H)) := by
  have hh := sim_146 hw.1
  obtain ⟨n1, n2, n3⟩ := w_nc hw
  obtain ⟨d1, d2, d3⟩ := w_nd hw
  obtain ⟨u1, u2, u3, u4, u5, u6, u7, u8, u9, u10, u11, u12, u13, u14, u15, u16, u17, u18, u19, u20, -⟩ := w_cal hw c hc
  obtain ⟨k1, k2, k3, k4, -⟩ := w_kept hw c hc
  obtain ⟨w1, w2⟩ := k4 hsh
  have hs1 : (r.2.2.1 126) c = 1 := u14.resolve_left (fun z => hsh (k3.mpr z))
  have haz : (g.2.2.2.2.2 34) c ≠ 0 := (hw.2.2.2.2.2.2 c hc).2.2.1 hs1
  obtain ⟨b1, b2, b3, b4⟩ := sim_cell hw.1 (ref_sh (x2 := x.2) hc hsh)
  obtain ⟨-, b5, -⟩ := b4
  rw [b3] at b5
  obtain ⟨t1, t2, t3, t4⟩ := b5 rfl
  have hlP := nP_l u20
  obtain ⟨g', r', x', f1, f2, f3, f4, f5, f6⟩ := send_all (D := (g.2.2.2.2.2 15) c) (T := (g.2.2.2.2.2 14) c) (w := 1) (c := c) (z := (g.2.2.2.2.2 34) c) (a := (g.2.2.2.2.2 20) c) (A := 127) (L := 14400) (first := 240 * c) (B := fun k => (r.2.2.1 127) (240 * c + k)) hw hc (by omega) (Or.inl ⟨rfl, rfl, rfl⟩) u20 (Or.inr b1) b2 t1 (t2.trans w1) (fun k hk => by rw [t4 k (by rw [w1]; exact hk), (w2 k hk).2]) row_an (by omega) (fun k hk => ⟨rfl, (w2 k hk).1⟩) (fun p hp f y1 y2 y3 y4 y5 => ⟨1, c, p, nP ((g.2.2.2.2.2 34) c), by omega, hc, hl, hp, by omega, y1, y2, y3, y4, fun z => absurd z (by decide), fun _ => Or.inr ⟨haz, rfl, rfl, y5⟩, fun z => absurd z (by decide)⟩)
  refine ⟨g', r', x', _, f4, rfl, rfl, fun d r0 Q => f5 d r0 Q, fun d H Q hH => ?_⟩
  have e' : ∀ Q, Go (d + 4) 245 0 [.ref 73, .int (nI ((g.2.2.2.2.2 15) c)), .int (nI ((g.2.2.2.2.2 14) c)), .int 1, .int (nI c), .ref 127, .int (nI (240 * c)), .int (nI ((g.2.2.2.2.2 34) c)), mk0, mk0, mk0, mk0, mk0] [] (putR r H) Q = Q none (putR r' H) := fun Q => f6 d H Q hH
  have hh := hH
  simp (disch := first | exact c1_i _ | exact c1_r _ | exact c1_n | exact c1_m | omega | assumption | (apply ac_l; omega) | (apply ac_r; omega) | decide | exact Or.inl rfl) only [e_244_0, e_244_0n, e_244_1, e_244_1n, e_244_2, e_244_5, e_244_6, e_244_7, e_244_7n, e_244_8, e_244_11, e_244_12, e_244_13, e_244_14, e_244_15, e_244_15n, e_244_16, e_244_19, e_244_22, e_244_23, e_244_24, e_244_24n, e_244_25, e_244_28, e_244_29, e_244_30, e_244_33, Option.toList_some, Option.toList_none, List.cons_append, List.nil_append, catS_cons, catS_nil, cat_int, cat_long, cat_ref, cat_null, c1_i, c1_r, c1_n, c1_m, true_and, and_true, and_self, putR_1, putR_u, eq_self, Nat.reduceLT, Nat.reduceLeDiff, Nat.reduceAdd, Nat.reduceEqDiff, vk_i, vk_l, vk_r, vk_n, vk_0, vk_1, if_true, if_false, not_true_eq_false, not_false_eq_true, false_and, and_false, ne_eq, true_or, or_true, ite_not, reduceCtorEq, pr_73, pr_74, pr_75, pr_76, pr_77, pr_78, pr_79, pr_80, pr_81, pr_82, pr_83, pr_84, pr_85, pr_86, pr_87, pr_88, pr_89, pr_90, pr_91, pr_92, pr_93, pr_94, pr_95, pr_96, pr_97, pr_98, pr_99, pr_100, pr_101, pr_102, pr_103, pr_104, pr_105, pr_106, pr_107, pr_108, pr_109, pr_110, pr_111, pr_112, pr_113, pr_114, pr_115, pr_116, pr_117, pr_118, pr_119, pr_120, pr_121, pr_122, pr_123, pr_124, pr_125, pr_126, pr_127, pr_128, pr_129, pr_130, pr_131, pr_132, pr_133, pr_134, pr_135, pr_136, pr_137, pr_138, pr_139, pr_140, pr_141, pr_142, pr_143, pr_144, pr_145, rf_0, rf_1, hI_1, rf_2, hI_2, rf_3, hI_3, rf_4, hI_4, rf_5, hI_5, rf_6, hI_6, rf_7, hI_7, rf_8, rf_9, rf_10, rf_11, hI_11, rf_12, rf_13, rf_14, rf_15, rf_16, hI_16, rf_17, rf_18, rf_19, rf_20, rf_21, rf_22, rf_23, hI_23, rf_24, rf_25, rf_26, rf_27, rf_28, hI_28, rf_29, rf_30, hI_30, rf_31, rf_32, hI_32, rf_33, hI_33, rf_34, rf_35, rf_36, rf_37, rf_38, rf_39, rf_40, rf_41, hI_41, rf_42, rf_43, rf_44, rf_45, rf_46, rf_47, rf_48, rf_49, rf_50, hI_50, rf_51, rf_52, rf_53, rf_54, rf_55, rf_56, rf_57, hI_57, rf_58, rf_59, rf_60, rf_61, rf_62, rf_63, rf_64, rf_65, rf_66, rf_67, rf_68, rf_69, rf_70, rf_71, rf_72, rf_73, rf_74, rf_75, hI_75, rf_76, rf_77, rf_78, hI_78, rf_79, rf_80, rf_81, hI_81, rf_82, hI_82, rf_83, rf_84, hI_84, rf_85, rf_86, rf_87, hI_87, rf_88, hI_88, rf_89, hI_89, rf_90, hI_90, rf_91, rf_92, rf_93, rf_94, hI_94, rf_95, hI_95, rf_96, rf_97, rf_98, rf_99, rf_100, hset_W, hA_74, hL_75, hA_76, hL_77, hA_78, hL_79, hA_80, hL_81, hA_82, hL_83, hA_84, hA_85, hA_86, hL_87, hA_88, hA_89, hA_90, hA_91, hA_92, hA_93, hA_94, hA_95, hA_96, hA_97, hA_98, hA_99, hA_100, hA_101, hA_102, hA_103, hA_104, hA_105, hL_106, hA_107, hA_108, hA_109, hA_110, hA_111, hA_112, hA_113, hA_114, hA_115, hA_116, hA_117, hA_118, hA_119, hA_120, hA_121, hA_122, hA_123, hA_124, hA_125, hA_126, hA_127, hA_128, hA_129, hA_130, hA_131, hA_132, hA_133, hA_134, hA_135, hA_136, hA_137, hA_138, hA_139, hA_140, hA_141, hA_142, hA_143, hA_144, hA_145, ni_ixL, ni_clL, ni_add, ni_mul, ni_lt, ni_le, ni_eq, ni_clamp, ni_ix, ni_lt0, ni_0le, ni_ltL, ni_Llt, ni_leL, ni_Lle, ni_eqL, ni_addL, ni_Ladd, ni_mulL, ni_Lmul, ni_subL, ni_sub, ni_Lsub, le_t, le_f, lt_t, lt_f, eq_f, il_lt, il_l0, il_g0, il_l1, il_g1, il_l2, il_g2, il_l3, il_g3, il_l4, il_g4, il_l5, il_g5, il_l7, il_g7, il_l8, il_g8, il_l9, il_g9, il_l10, il_g10, il_l15, il_g15, il_l20, il_g20, il_l23, il_g23, il_l24, il_g24, il_l60, il_g60, il_l100, il_g100, il_l999, il_g999, il_l1000, il_g1000, r_in, putR_lt hh, sA_1, sA_s, i1_0, bs_0, bs_1, im_lt, im_ge, im_eq, ni_em, u1, u3, u19, e']
/-- an answer that says AGED -/
theorem snd_aged (hw : World K tb g r x h) (hc : c < (g.1 0 5)) (hl : (g.2.2.2.2.2 14) c ≠ (g.2.2.2.2.2 15) c) : ∃ g' r' x' h', World K tb g' r' x' h' ∧ h'.1 = h.1 ∧ h'.2.1 = h.2.1 ∧
    (∀ d r0 Q, Go (d + 5) 100 0 [.ref 5, .ref ((g.1 6) c), .int 1, .ref 4, mk0, mk0, mk0, mk0] [] (putR r0 (putX x h)) Q = Q none (putR r0 (putX x' h'))) ∧ (∀ d (H : pheap) Q, 146 ≤ H.1 → Go (d + 4) 245 0 [.ref 73, .int (nI ((g.2.2.2.2.2 15) c)), .int (nI ((g.2.2.2.2.2 14) c)), .int 1, .int (nI c), .ref 134, .int 0, .int 1, mk0, mk0, mk0, mk0, mk0] [] (putR (sA r 134 0 2) H) Q = Q none (putR r' H)) := by
  have hh := sim_146 hw.1
  obtain ⟨n1, n2, n3⟩ := w_nc hw
  have hK := hw.1.1.2.1
  have hLo := hw.1.1.2.2.1 4 (by omega)
  have hr : RM (sA r 134 0 2) r := rm_A _ (Or.inl rfl)
  have hw1 := w_rm hw hr
  have h2 : isB (2 : Int32) := ⟨2, by omega, rfl⟩
  have hsl : ∀ p, p < nP 1 → slP g 1 c (nP 1) 1 p (fun _ => 2) ((sA r 134 0 2).2.2.1 123) ((sA r 134 0 2).2.2.1 127) := fun p hp f y1 y2 y3 y4 y5 => by
    have hp0 : p = 0 := by
      have : p < 1 := hp
      omega
    subst hp0
    exact ⟨1, c, 0, 1, by omega, hc, hl, by omega, by omega, y1, y2, y3, y4, fun z => absurd z (by decide), fun _ => Or.inl ⟨rfl, rfl, y5 0 (by decide)⟩, fun z => absurd z (by decide)⟩
  obtain ⟨g', r', x', f1, f2, f3, f4, f5, f6⟩ := send_all (D := (g.2.2.2.2.2 15) c) (T := (g.2.2.2.2.2 14) c) (w := 1) (c := c) (z := 1) (a := 4) (A := 134) (L := 240) (first := 0) (B := fun _ => 2) hw1 hc (by omega) (Or.inl ⟨rfl, rfl, rfl⟩) (by omega) (Or.inl (by omega)) (by omega) (by rw [hLo]; exact hK.2.2.2.2.1) (by rw [hLo]; exact hK.2.2.2.2.2.1) (fun k hk => by
    rw [show k = 0 by omega, hLo]
    exact hK.2.2.2.2.2.2) row_ms (by omega) (fun k hk => ⟨by rw [show 0 + k = 0 by omega]; exact sA_s _ _ _ _, h2⟩) hsl
  exact ⟨g', r', x', _, f4, rfl, rfl, fun d r0 Q => f5 d r0 Q, fun d H Q hH => f6 d H Q hH⟩
end
