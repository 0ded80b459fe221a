/-! room for a slot, one more slot -/
def wrF (f b : Nat → Int32) (s j : Nat) : Nat → Int32 := fun k => if s ≤ k ∧ k < s + j then b (k - s) else f k
theorem wrF_0 (f b : Nat → Int32) (s : Nat) : wrF f b s 0 = f := funext fun k => if_neg (by omega)
theorem wrF_u (f b : Nat → Int32) (s j : Nat) : upN (wrF f b s j) (s + j) (b j) = wrF f b s (j + 1) := funext fun k => by
  unfold upN wrF
  by_cases h1 : k = s + j
  · subst h1
    rw [if_pos rfl, if_pos (by omega), show s + j - s = j by omega]
  · rw [if_neg h1]
    by_cases h2 : s ≤ k ∧ k < s + j
    · rw [if_pos h2, if_pos (by omega)]
    · rw [if_neg h2, if_neg (by omega)]
theorem wrF_i (f b : Nat → Int32) {s j k : Nat} (h : k < j) : wrF f b s j (s + k) = b k := by
  unfold wrF
  rw [if_pos (by omega), show s + k - s = k by omega]
theorem wrF_o (f b : Nat → Int32) {s j k : Nat} (h : k < s ∨ s + j ≤ k) : wrF f b s j k = f k := if_neg (by omega)
theorem sX_X (x : xS) (a : Nat) (f f' : Nat → Int32) : sX (sX x a f) a f' = sX x a f' := by
  unfold sX
  dsimp only
  rw [upN_u]
theorem sR_R (r : rS) (a : Nat) (f f' : Nat → Int32) : sR (sR r a f) a f' = sR r a f' := by
  unfold sR
  dsimp only
  rw [upN_u]
theorem sI_I (r : rS) (k : Nat) (v w : Int32) : sI (sI r k v) k w = sI r k w := by
  unfold sI
  dsimp only
  rw [upN_u]
theorem tI_sX (x : xS) (o k : Nat) (v : Int32) : tI x (28 + o) k v = sX x (28 + o) (upN (x.1 (28 + o)) k v) := rfl
theorem sA_sR (r : rS) (a k : Nat) (v : Int32) : sA r a k v = sR r a (upN (r.2.2.1 a) k v) := rfl
section
variable {K : Nat → pcell} {tb : Nat} {g g' : gS} {r r' r0 : rS} {x x' : xS} {h h' : pheap} {d : Nat} {Q : Option Value → pheap → Prop}
/-- one more lost -/
theorem w_lost (hw : World K tb g r x h) (v : Int32) : World K tb g (sI r 95 v) (tI x 25 1 v) h := by
  obtain ⟨c1, c2, c3⟩ := w_ns hw
  obtain ⟨⟨h1, pf, hc, bk, vr, kp, ft, fl, ⟨w1, w2, w3, w5, w4⟩, ⟨y1, y2, y3, y4⟩⟩, i1, m⟩ := hw
  refine ⟨⟨h1, pf, hc, bk, vr, kp, ft, fxl_t fl (by omega), ⟨?_, fun i hi => ⟨?_, (w2 i hi).2⟩, w3, w5, fun i hi => ⟨?_, fun k hk => ?_⟩⟩, ⟨y1, y2, y3, ?_⟩⟩, i1, m⟩
  · rw [tI_ne _ _ (by omega)]; exact w1
  · rw [tI_ne _ _ (by omega)]; exact (w2 i hi).1
  · rw [tI_ne _ _ (by omega)]; exact (w4 i hi).1
  · have := (w2 i (by omega)).2
    rw [tI_ne _ _ (by omega)]; exact (w4 i hi).2 k hk
  · rw [tI_s, sI_s]
theorem w_scr (hw : World K tb g r x h) {a k : Nat} (ha : scr a k) (v : Int32) : World K tb g r (tI x a k v) h := ⟨sim_scr hw.1 ha v, hw.2⟩
theorem w_scrX (hw : World K tb g r x h) {a : Nat} (ha : a = 26 ∨ 70 ≤ a) (f : Nat → Int32) : World K tb g r (sX x a f) h := by
  obtain ⟨⟨h1, pf, hc, bk, vr, kp, ⟨f1, f2, f3, f4⟩, fl, ⟨w1, w2, w3, w5, w4⟩, ⟨y1, y2, y3, y4⟩⟩, i1, m⟩ := hw
  refine ⟨⟨h1, pf, hc, bk, vr, kp, ⟨?_, fun k hk => ?_, ?_, fun k hk => ?_⟩, fun q q1 q2 => ⟨?_, (fl q q1 q2).2⟩, ⟨?_, fun i hi => ⟨?_, (w2 i hi).2⟩, w3, w5, fun i hi => ⟨?_, fun k hk => ?_⟩⟩, ⟨?_, ?_, ?_, ?_⟩⟩, i1, m⟩
  · rw [sX_n _ _ (by omega)]; exact f1
  · rw [sX_n _ _ (by omega)]; exact f2 k hk
  · rw [sX_n _ _ (by omega)]; exact f3
  · rw [sX_n _ _ (by omega)]; exact f4 k hk
  · rw [sX_n _ _ (by omega)]; exact (fl q q1 q2).1
  · rw [sX_n _ _ (by omega)]; exact w1
  · rw [sX_n _ _ (by omega)]; exact (w2 i hi).1
  · rw [sX_n _ _ (by omega)]; exact (w4 i hi).1
  · have := (w2 i (by omega)).2
    rw [sX_n _ _ (by omega)]; exact (w4 i hi).2 k hk
  · rw [sX_n _ _ (by omega)]; exact y1
  · rw [sX_n _ _ (by omega)]; exact y2
  · rw [sX_n _ _ (by omega)]; exact y3
  · rw [sX_n _ _ (by omega)]; exact y4
def roomX (x : xS) (n : Nat) : xS := if n = 40 then tI (toX x 0 40) 25 1 (x.1 25 1 + 1) else x
def roomR (r : rS) (n : Nat) : rS := if n = 40 then sI (dropR r 0 40) 95 ((r.1 95) + 1) else r
def roomN (n : Nat) : Nat := if n = 40 then 39 else n
def roomG (g : gS) : gS := gM (gF (gF g 27 (if (g.2.2.2.2.1 0) = 40 then (fun k => (g.2.2.2.2.2 27) (sig 0 (g.2.2.2.2.1 0) k)) else (g.2.2.2.2.2 27))) 28 (if (g.2.2.2.2.1 0) = 40 then (fun k => (g.2.2.2.2.2 28) (tau 0 k)) else (g.2.2.2.2.2 28))) 0 (roomN (g.2.2.2.2.1 0))
theorem w_room (hw : World K tb g r x h) : World K tb (roomG g) (roomR r (g.2.2.2.2.1 0)) (roomX x (g.2.2.2.2.1 0)) h := by
  unfold roomR roomX
  by_cases h4 : (g.2.2.2.2.1 0) = 40
  · have hg : roomG g = dropG g 0 := by
      unfold roomG dropG roomN
      rw [if_pos h4, if_pos h4, if_pos h4, h4]
    rw [hg, if_pos h4, if_pos h4]
    have e := w_drop hw (i := 0) (by omega)
    rw [h4] at e
    have e2 := w_lost e ((r.1 95) + 1)
    have e3 : x.1 25 1 = (r.1 95) := (w_fx hw).2.2.2
    rw [e3]
    exact e2
  · have hg : roomG g = g := by
      unfold roomG roomN
      rw [if_neg h4, if_neg h4, if_neg h4]
      unfold gF gM
      dsimp only
      rw [upN_i, upN_i, upN_i]
    rw [hg, if_neg h4, if_neg h4]
    exact hw
theorem roomN_l {n : Nat} (h : n ≤ 40) : roomN n < 40 := by
  unfold roomN
  split <;> omega
theorem x_room (hh : 146 ≤ h.1) {n : Nat} (hn : x.1 25 0 = nI n) (hn4 : n ≤ 40) : Go (d + 2) 101 0 [.ref 25] [] (putR r0 (putX x h)) Q = Q none (putR r0 (putX (roomX x n) h)) := by
  unfold roomX
  by_cases h4 : n = 40
  · subst h4
    have e := fun Q => x_takeOff (d := d) (r0 := r0) (Q := Q) hh (i := 0) hn hn4 (by omega)
    simp (disch := first | exact c1_i _ | exact c1_r _ | exact c1_n | exact c1_m | omega | assumption | (apply ac_l; omega) | (apply ac_r; omega) | decide | exact Or.inl rfl) only [e_101_0, e_101_0n, e_101_1, e_101_4, e_101_6, e_101_9, e_101_9n, e_101_10, e_101_11, e_101_14, e_101_14n, e_101_15, e_101_16, e_101_19, e_101_20, e_101_21, e_101_24, Option.toList_some, Option.toList_none, List.cons_append, List.nil_append, catS_cons, catS_nil, cat_int, cat_long, cat_ref, cat_null, c1_i, c1_r, c1_n, c1_m, true_and, and_true, and_self, putR_1, putR_u, eq_self, Nat.reduceLT, Nat.reduceLeDiff, Nat.reduceAdd, Nat.reduceEqDiff, vk_i, vk_l, vk_r, vk_n, vk_0, vk_1, if_true, if_false, not_true_eq_false, not_false_eq_true, false_and, and_false, ne_eq, true_or, or_true, ite_not, reduceCtorEq, putX_1, putX_u, putX_hi, hset_Xhi, px_5, xf_5_0, xf_5_1, xI_5_1, xf_5_2, xR_0, xf_5_3, xI_5_3, xf_5_4, xI_5_4, xf_5_5, xf_5_6, xI_5_6, xf_5_7, xf_5_8, xf_5_9, xf_5_10, xf_5_11, xf_5_12, xf_5_13, xf_5_14, xf_5_15, xI_5_15, px_6, xA_6, px_18, xA_18, px_19, xf_19_0, xI_19_0, xf_19_1, xR_1, xf_19_2, xI_19_2, px_20, xf_20_0, xI_20_0, xf_20_1, xR_2, xf_20_2, xI_20_2, px_21, xf_21_0, xI_21_0, xf_21_1, xR_3, xf_21_2, xI_21_2, px_22, xf_22_0, xI_22_0, xf_22_1, xR_4, xf_22_2, xI_22_2, px_23, xf_23_0, xI_23_0, xf_23_1, xR_5, xf_23_2, xI_23_2, px_24, xf_24_0, xI_24_0, xf_24_1, xR_6, xf_24_2, xI_24_2, px_25, xf_25_0, xI_25_0, xf_25_1, xI_25_1, xf_25_2, xf_25_3, xI_25_3, xf_25_4, xf_25_5, xf_25_6, px_26, xA_26, px_27, px_28, xA_28, px_29, xA_29, px_30, xA_30, px_31, xA_31, px_32, xA_32, px_33, xA_33, px_34, xA_34, px_35, xA_35, px_36, xA_36, px_37, xA_37, px_38, xA_38, px_39, xA_39, px_40, xA_40, px_41, xA_41, px_42, xA_42, px_43, xA_43, px_44, xA_44, px_45, xA_45, px_46, xA_46, px_47, xA_47, px_48, xA_48, px_49, xA_49, px_50, xA_50, px_51, xA_51, px_52, xA_52, px_53, xA_53, px_54, xA_54, px_55, xA_55, px_56, xA_56, px_57, xA_57, px_58, xA_58, px_59, xA_59, px_60, xA_60, px_61, xA_61, px_62, xA_62, px_63, xA_63, px_64, xA_64, px_65, xA_65, px_66, xA_66, px_67, xA_67, px_68, xA_68, px_69, xA_69, px_70, xf_70_0, xI_70_0, xf_70_1, xI_70_1, xf_70_2, xI_70_2, xf_70_3, xf_70_4, px_71, xA_71, px_72, xA_72, ni_ixL, ni_clL, ni_add, ni_mul, ni_lt, ni_le, ni_eq, ni_clamp, ni_ix, ni_lt0, ni_0le, ni_ltL, ni_Llt, ni_leL, ni_Lle, ni_eqL, ni_addL, ni_Ladd, ni_mulL, ni_Lmul, ni_subL, ni_sub, ni_Lsub, le_t, le_f, lt_t, lt_f, eq_f, il_lt, il_l0, il_g0, il_l1, il_g1, il_l2, il_g2, il_l3, il_g3, il_l4, il_g4, il_l5, il_g5, il_l7, il_g7, il_l8, il_g8, il_l9, il_g9, il_l10, il_g10, il_l15, il_g15, il_l20, il_g20, il_l23, il_g23, il_l24, il_g24, il_l60, il_g60, il_l100, il_g100, il_l999, il_g999, il_l1000, il_g1000, putR_lo, hset_lo, putR_lt hh, rd_hi, wr_hi, hs_1, hs_s, hs_o, uv_s, uv_o, pv_0, pv_n, i1_0, bs_0, bs_1, im_lt, im_ge, im_eq, ni_em, hn, show ∀ Q, Go (d + 1) 102 0 [.ref 25, .int 0, mk0, mk0] [] (putR r0 (putX x h)) Q = Q none (putR r0 (putX (toX x 0 40) h)) from e, toX_o]
  · simp (disch := first | exact c1_i _ | exact c1_r _ | exact c1_n | exact c1_m | omega | assumption | (apply ac_l; omega) | (apply ac_r; omega) | decide | exact Or.inl rfl) only [e_101_0, e_101_0n, e_101_1, e_101_4, e_101_6, e_101_9, e_101_9n, e_101_10, e_101_11, e_101_14, e_101_14n, e_101_15, e_101_16, e_101_19, e_101_20, e_101_21, e_101_24, Option.toList_some, Option.toList_none, List.cons_append, List.nil_append, catS_cons, catS_nil, cat_int, cat_long, cat_ref, cat_null, c1_i, c1_r, c1_n, c1_m, true_and, and_true, and_self, putR_1, putR_u, eq_self, Nat.reduceLT, Nat.reduceLeDiff, Nat.reduceAdd, Nat.reduceEqDiff, vk_i, vk_l, vk_r, vk_n, vk_0, vk_1, if_true, if_false, not_true_eq_false, not_false_eq_true, false_and, and_false, ne_eq, true_or, or_true, ite_not, reduceCtorEq, putX_1, putX_u, putX_hi, hset_Xhi, px_5, xf_5_0, xf_5_1, xI_5_1, xf_5_2, xR_0, xf_5_3, xI_5_3, xf_5_4, xI_5_4, xf_5_5, xf_5_6, xI_5_6, xf_5_7, xf_5_8, xf_5_9, xf_5_10, xf_5_11, xf_5_12, xf_5_13, xf_5_14, xf_5_15, xI_5_15, px_6, xA_6, px_18, xA_18, px_19, xf_19_0, xI_19_0, xf_19_1, xR_1, xf_19_2, xI_19_2, px_20, xf_20_0, xI_20_0, xf_20_1, xR_2, xf_20_2, xI_20_2, px_21, xf_21_0, xI_21_0, xf_21_1, xR_3, xf_21_2, xI_21_2, px_22, xf_22_0, xI_22_0, xf_22_1, xR_4, xf_22_2, xI_22_2, px_23, xf_23_0, xI_23_0, xf_23_1, xR_5, xf_23_2, xI_23_2, px_24, xf_24_0, xI_24_0, xf_24_1, xR_6, xf_24_2, xI_24_2, px_25, xf_25_0, xI_25_0, xf_25_1, xI_25_1, xf_25_2, xf_25_3, xI_25_3, xf_25_4, xf_25_5, xf_25_6, px_26, xA_26, px_27, px_28, xA_28, px_29, xA_29, px_30, xA_30, px_31, xA_31, px_32, xA_32, px_33, xA_33, px_34, xA_34, px_35, xA_35, px_36, xA_36, px_37, xA_37, px_38, xA_38, px_39, xA_39, px_40, xA_40, px_41, xA_41, px_42, xA_42, px_43, xA_43, px_44, xA_44, px_45, xA_45, px_46, xA_46, px_47, xA_47, px_48, xA_48, px_49, xA_49, px_50, xA_50, px_51, xA_51, px_52, xA_52, px_53, xA_53, px_54, xA_54, px_55, xA_55, px_56, xA_56, px_57, xA_57, px_58, xA_58, px_59, xA_59, px_60, xA_60, px_61, xA_61, px_62, xA_62, px_63, xA_63, px_64, xA_64, px_65, xA_65, px_66, xA_66, px_67, xA_67, px_68, xA_68, px_69, xA_69, px_70, xf_70_0, xI_70_0, xf_70_1, xI_70_1, xf_70_2, xI_70_2, xf_70_3, xf_70_4, px_71, xA_71, px_72, xA_72, ni_ixL, ni_clL, ni_add, ni_mul, ni_lt, ni_le, ni_eq, ni_clamp, ni_ix, ni_lt0, ni_0le, ni_ltL, ni_Llt, ni_leL, ni_Lle, ni_eqL, ni_addL, ni_Ladd, ni_mulL, ni_Lmul, ni_subL, ni_sub, ni_Lsub, le_t, le_f, lt_t, lt_f, eq_f, il_lt, il_l0, il_g0, il_l1, il_g1, il_l2, il_g2, il_l3, il_g3, il_l4, il_g4, il_l5, il_g5, il_l7, il_g7, il_l8, il_g8, il_l9, il_g9, il_l10, il_g10, il_l15, il_g15, il_l20, il_g20, il_l23, il_g23, il_l24, il_g24, il_l60, il_g60, il_l100, il_g100, il_l999, il_g999, il_l1000, il_g1000, putR_lo, hset_lo, putR_lt hh, rd_hi, wr_hi, hs_1, hs_s, hs_o, uv_s, uv_o, pv_0, pv_n, i1_0, bs_0, bs_1, im_lt, im_ge, im_eq, ni_em, hn, h4]
theorem r_room (hh : 146 ≤ h.1) {n : Nat} (hn : (r.1 94) = nI n) (hn4 : n ≤ 40) : Go (d + 2) 246 0 [.ref 73] [] (putR r h) Q = Q (some (.int (nI (roomN n)))) (putR (sI (roomR r n) 94 (nI (roomN n + 1))) h) := by
  unfold roomR roomN
  by_cases h4 : n = 40
  · subst h4
    have e := fun Q => r_drop (d := d) (Q := Q) (r := r) hh (i := 0) (show 40 ≤ 41 by omega) hn (by omega)
    have e1 : (dropR r 0 40).1 94 = nI 39 := rfl
    have e2 : (dropR r 0 40).1 95 = (r.1 95) := rfl
    simp (disch := first | exact c1_i _ | exact c1_r _ | exact c1_n | exact c1_m | omega | assumption | (apply ac_l; omega) | (apply ac_r; omega) | decide | exact Or.inl rfl) only [e_246_0, e_246_0n, e_246_1, e_246_4, e_246_6, e_246_9, e_246_9n, e_246_10, e_246_11, e_246_14, e_246_14n, e_246_15, e_246_16, e_246_19, e_246_20, e_246_21, e_246_24, e_246_24n, e_246_25, e_246_26, e_246_29, e_246_30, e_246_31, e_246_34, e_246_34n, e_246_35, e_246_38, e_246_39, e_246_40, Option.toList_some, Option.toList_none, List.cons_append, List.nil_append, catS_cons, catS_nil, cat_int, cat_long, cat_ref, cat_null, c1_i, c1_r, c1_n, c1_m, true_and, and_true, and_self, putR_1, putR_u, eq_self, Nat.reduceLT, Nat.reduceLeDiff, Nat.reduceAdd, Nat.reduceEqDiff, vk_i, vk_l, vk_r, vk_n, vk_0, vk_1, if_true, if_false, not_true_eq_false, not_false_eq_true, false_and, and_false, ne_eq, true_or, or_true, ite_not, reduceCtorEq, pr_73, pr_74, pr_75, pr_76, pr_77, pr_78, pr_79, pr_80, pr_81, pr_82, pr_83, pr_84, pr_85, pr_86, pr_87, pr_88, pr_89, pr_90, pr_91, pr_92, pr_93, pr_94, pr_95, pr_96, pr_97, pr_98, pr_99, pr_100, pr_101, pr_102, pr_103, pr_104, pr_105, pr_106, pr_107, pr_108, pr_109, pr_110, pr_111, pr_112, pr_113, pr_114, pr_115, pr_116, pr_117, pr_118, pr_119, pr_120, pr_121, pr_122, pr_123, pr_124, pr_125, pr_126, pr_127, pr_128, pr_129, pr_130, pr_131, pr_132, pr_133, pr_134, pr_135, pr_136, pr_137, pr_138, pr_139, pr_140, pr_141, pr_142, pr_143, pr_144, pr_145, rf_0, rf_1, hI_1, rf_2, hI_2, rf_3, hI_3, rf_4, hI_4, rf_5, hI_5, rf_6, hI_6, rf_7, hI_7, rf_8, rf_9, rf_10, rf_11, hI_11, rf_12, rf_13, rf_14, rf_15, rf_16, hI_16, rf_17, rf_18, rf_19, rf_20, rf_21, rf_22, rf_23, hI_23, rf_24, rf_25, rf_26, rf_27, rf_28, hI_28, rf_29, rf_30, hI_30, rf_31, rf_32, hI_32, rf_33, hI_33, rf_34, rf_35, rf_36, rf_37, rf_38, rf_39, rf_40, rf_41, hI_41, rf_42, rf_43, rf_44, rf_45, rf_46, rf_47, rf_48, rf_49, rf_50, hI_50, rf_51, rf_52, rf_53, rf_54, rf_55, rf_56, rf_57, hI_57, rf_58, rf_59, rf_60, rf_61, rf_62, rf_63, rf_64, rf_65, rf_66, rf_67, rf_68, rf_69, rf_70, rf_71, rf_72, rf_73, rf_74, rf_75, hI_75, rf_76, rf_77, rf_78, hI_78, rf_79, rf_80, rf_81, hI_81, rf_82, hI_82, rf_83, rf_84, hI_84, rf_85, rf_86, rf_87, hI_87, rf_88, hI_88, rf_89, hI_89, rf_90, hI_90, rf_91, rf_92, rf_93, rf_94, hI_94, rf_95, hI_95, rf_96, rf_97, rf_98, rf_99, rf_100, hset_W, hA_74, hL_75, hA_76, hL_77, hA_78, hL_79, hA_80, hL_81, hA_82, hL_83, hA_84, hA_85, hA_86, hL_87, hA_88, hA_89, hA_90, hA_91, hA_92, hA_93, hA_94, hA_95, hA_96, hA_97, hA_98, hA_99, hA_100, hA_101, hA_102, hA_103, hA_104, hA_105, hL_106, hA_107, hA_108, hA_109, hA_110, hA_111, hA_112, hA_113, hA_114, hA_115, hA_116, hA_117, hA_118, hA_119, hA_120, hA_121, hA_122, hA_123, hA_124, hA_125, hA_126, hA_127, hA_128, hA_129, hA_130, hA_131, hA_132, hA_133, hA_134, hA_135, hA_136, hA_137, hA_138, hA_139, hA_140, hA_141, hA_142, hA_143, hA_144, hA_145, ni_ixL, ni_clL, ni_add, ni_mul, ni_lt, ni_le, ni_eq, ni_clamp, ni_ix, ni_lt0, ni_0le, ni_ltL, ni_Llt, ni_leL, ni_Lle, ni_eqL, ni_addL, ni_Ladd, ni_mulL, ni_Lmul, ni_subL, ni_sub, ni_Lsub, le_t, le_f, lt_t, lt_f, eq_f, il_lt, il_l0, il_g0, il_l1, il_g1, il_l2, il_g2, il_l3, il_g3, il_l4, il_g4, il_l5, il_g5, il_l7, il_g7, il_l8, il_g8, il_l9, il_g9, il_l10, il_g10, il_l15, il_g15, il_l20, il_g20, il_l23, il_g23, il_l24, il_g24, il_l60, il_g60, il_l100, il_g100, il_l999, il_g999, il_l1000, il_g1000, r_in, putR_lt hh, sA_1, sA_s, i1_0, bs_0, bs_1, im_lt, im_ge, im_eq, ni_em, hn, show ∀ Q, Go (d + 1) 247 0 [.ref 73, .int 0, mk0, mk0] [] (putR r h) Q = Q none (putR (dropR r 0 40) h) from e, e1, e2, sI_s, sI_n]
  · simp (disch := first | exact c1_i _ | exact c1_r _ | exact c1_n | exact c1_m | omega | assumption | (apply ac_l; omega) | (apply ac_r; omega) | decide | exact Or.inl rfl) only [e_246_0, e_246_0n, e_246_1, e_246_4, e_246_6, e_246_9, e_246_9n, e_246_10, e_246_11, e_246_14, e_246_14n, e_246_15, e_246_16, e_246_19, e_246_20, e_246_21, e_246_24, e_246_24n, e_246_25, e_246_26, e_246_29, e_246_30, e_246_31, e_246_34, e_246_34n, e_246_35, e_246_38, e_246_39, e_246_40, Option.toList_some, Option.toList_none, List.cons_append, List.nil_append, catS_cons, catS_nil, cat_int, cat_long, cat_ref, cat_null, c1_i, c1_r, c1_n, c1_m, true_and, and_true, and_self, putR_1, putR_u, eq_self, Nat.reduceLT, Nat.reduceLeDiff, Nat.reduceAdd, Nat.reduceEqDiff, vk_i, vk_l, vk_r, vk_n, vk_0, vk_1, if_true, if_false, not_true_eq_false, not_false_eq_true, false_and, and_false, ne_eq, true_or, or_true, ite_not, reduceCtorEq, pr_73, pr_74, pr_75, pr_76, pr_77, pr_78, pr_79, pr_80, pr_81, pr_82, pr_83, pr_84, pr_85, pr_86, pr_87, pr_88, pr_89, pr_90, pr_91, pr_92, pr_93, pr_94, pr_95, pr_96, pr_97, pr_98, pr_99, pr_100, pr_101, pr_102, pr_103, pr_104, pr_105, pr_106, pr_107, pr_108, pr_109, pr_110, pr_111, pr_112, pr_113, pr_114, pr_115, pr_116, pr_117, pr_118, pr_119, pr_120, pr_121, pr_122, pr_123, pr_124, pr_125, pr_126, pr_127, pr_128, pr_129, pr_130, pr_131, pr_132, pr_133, pr_134, pr_135, pr_136, pr_137, pr_138, pr_139, pr_140, pr_141, pr_142, pr_143, pr_144, pr_145, rf_0, rf_1, hI_1, rf_2, hI_2, rf_3, hI_3, rf_4, hI_4, rf_5, hI_5, rf_6, hI_6, rf_7, hI_7, rf_8, rf_9, rf_10, rf_11, hI_11, rf_12, rf_13, rf_14, rf_15, rf_16, hI_16, rf_17, rf_18, rf_19, rf_20, rf_21, rf_22, rf_23, hI_23, rf_24, rf_25, rf_26, rf_27, rf_28, hI_28, rf_29, rf_30, hI_30, rf_31, rf_32, hI_32, rf_33, hI_33, rf_34, rf_35, rf_36, rf_37, rf_38, rf_39, rf_40, rf_41, hI_41, rf_42, rf_43, rf_44, rf_45, rf_46, rf_47, rf_48, rf_49, rf_50, hI_50, rf_51, rf_52, rf_53, rf_54, rf_55, rf_56, rf_57, hI_57, rf_58, rf_59, rf_60, rf_61, rf_62, rf_63, rf_64, rf_65, rf_66, rf_67, rf_68, rf_69, rf_70, rf_71, rf_72, rf_73, rf_74, rf_75, hI_75, rf_76, rf_77, rf_78, hI_78, rf_79, rf_80, rf_81, hI_81, rf_82, hI_82, rf_83, rf_84, hI_84, rf_85, rf_86, rf_87, hI_87, rf_88, hI_88, rf_89, hI_89, rf_90, hI_90, rf_91, rf_92, rf_93, rf_94, hI_94, rf_95, hI_95, rf_96, rf_97, rf_98, rf_99, rf_100, hset_W, hA_74, hL_75, hA_76, hL_77, hA_78, hL_79, hA_80, hL_81, hA_82, hL_83, hA_84, hA_85, hA_86, hL_87, hA_88, hA_89, hA_90, hA_91, hA_92, hA_93, hA_94, hA_95, hA_96, hA_97, hA_98, hA_99, hA_100, hA_101, hA_102, hA_103, hA_104, hA_105, hL_106, hA_107, hA_108, hA_109, hA_110, hA_111, hA_112, hA_113, hA_114, hA_115, hA_116, hA_117, hA_118, hA_119, hA_120, hA_121, hA_122, hA_123, hA_124, hA_125, hA_126, hA_127, hA_128, hA_129, hA_130, hA_131, hA_132, hA_133, hA_134, hA_135, hA_136, hA_137, hA_138, hA_139, hA_140, hA_141, hA_142, hA_143, hA_144, hA_145, ni_ixL, ni_clL, ni_add, ni_mul, ni_lt, ni_le, ni_eq, ni_clamp, ni_ix, ni_lt0, ni_0le, ni_ltL, ni_Llt, ni_leL, ni_Lle, ni_eqL, ni_addL, ni_Ladd, ni_mulL, ni_Lmul, ni_subL, ni_sub, ni_Lsub, le_t, le_f, lt_t, lt_f, eq_f, il_lt, il_l0, il_g0, il_l1, il_g1, il_l2, il_g2, il_l3, il_g3, il_l4, il_g4, il_l5, il_g5, il_l7, il_g7, il_l8, il_g8, il_l9, il_g9, il_l10, il_g10, il_l15, il_g15, il_l20, il_g20, il_l23, il_g23, il_l24, il_g24, il_l60, il_g60, il_l100, il_g100, il_l999, il_g999, il_l1000, il_g1000, r_in, putR_lt hh, sA_1, sA_s, i1_0, bs_0, bs_1, im_lt, im_ge, im_eq, ni_em, hn, h4, sI_s, Nat.add_sub_cancel]
def addX (x : xS) (n o : Nat) (F : Nat → Int32) (z : Nat) : xS := tI (sX (tI x 25 0 (nI (n + 1))) (28 + o) F) 68 o (nI z)
def addR (r : rS) (n : Nat) (S : Nat → Int32) (z : Nat) : rS := sR (sR (sI r 94 (nI (n + 1))) 140 (upN ((r.2.2.1 140)) n (nI z))) 139 S
def addG (g : gS) (z : Nat) : gS := gM (gN g 28 (g.2.2.2.2.1 0) z) 0 ((g.2.2.2.2.1 0) + 1)
theorem w_addZ (hw : World K tb g r x h) (hn : (g.2.2.2.2.1 0) < 40) {F S Z : Nat → Int32} {z : Nat} (hZ : (∀ k, k < (g.2.2.2.2.1 0) → Z k = (r.2.2.1 140) k) ∧ Z (g.2.2.2.2.1 0) = nI z) (hz : 5 ≤ z ∧ z ≤ 29) (hS : ∀ p, p < 32 * (g.2.2.2.2.1 0) → S p = (r.2.2.1 139) p) (hF : ∀ k, k < z → isB (S (32 * (g.2.2.2.2.1 0) + k)) ∧ F k = sb (S (32 * (g.2.2.2.2.1 0) + k))) (hm : slM g (fun k => S (32 * (g.2.2.2.2.1 0) + k)) z ((r.2.2.1 123)) ((r.2.2.1 127))) : World K tb (addG g z) (sR (sR (sI r 94 (nI ((g.2.2.2.2.1 0) + 1))) 140 Z) 139 S) (addX x (g.2.2.2.2.1 0) ((g.2.2.2.2.2 27) (g.2.2.2.2.1 0)) F z) h := by
  obtain ⟨c1, c2, c3⟩ := w_ns hw
  obtain ⟨f1, f2, f3, f4, f5⟩ := w_fw hw
  obtain ⟨wa, -⟩ := w_way hw
  obtain ⟨-, -, -, lo⟩ := w_fx hw
  have hm0 := hw.2.2.1
  have ho := (f2 (g.2.2.2.2.1 0) hn).2
  have e := w_wire (hw := hw) (n := (g.2.2.2.2.1 0) + 1) (od := (g.2.2.2.2.2 27)) (sz := upN ((g.2.2.2.2.2 28)) (g.2.2.2.2.1 0) z) (z := Z) (s := S) (lo := (r.1 95)) (X := (addX x (g.2.2.2.2.1 0) ((g.2.2.2.2.2 27) (g.2.2.2.2.1 0)) F z).1) (by omega)
    (fun k hk => by
      unfold addX
      rw [tI_ne _ _ (by omega), sX_n _ _ (by omega), tI_ne _ _ (by omega)]
      exact f2 k hk)
    f3 (by unfold addX; rw [tI_ne _ _ (by omega), sX_n _ _ (by omega), tI_s])
    (by unfold addX; rw [tI_ne _ _ (by omega), sX_n _ _ (by omega), tI_ne _ _ (by omega)]; exact lo)
    (fun a k ha => by unfold addX; rw [tI_ne _ _ (by omega), sX_n _ _ (by omega), tI_ne _ _ (by omega)])
    (fun k hk => by
      by_cases he : k = (g.2.2.2.2.1 0)
      · subst he
        rw [upN_s]
        refine ⟨hZ.2, hz.1, hz.2, ?_, fun p hp => ⟨(hF p hp).1, ?_⟩, hm⟩
        · unfold addX; rw [tI_s]
        · unfold addX
          rw [tI_ne _ _ (by omega), sX_s]
          exact (hF p hp).2
      · have hk' : k < (g.2.2.2.2.1 0) := by omega
        obtain ⟨q1, q2, q3, q4⟩ := wa k hk'
        obtain ⟨p1, p2⟩ := f5 k hk'
        have hok := (f2 k (by omega)).2
        have hne : (g.2.2.2.2.2 27) k ≠ (g.2.2.2.2.2 27) (g.2.2.2.2.1 0) := fun z => he (f3 _ _ (by omega) (by omega) z)
        rw [upN_n _ _ he, hZ.1 k hk']
        have hsl : ∀ p, p < 32 → S (32 * k + p) = (r.2.2.1 139) (32 * k + p) := fun p hp => hS _ (by omega)
        refine ⟨q1, q2, q3, ?_, fun p hp => ?_, slM_c q3 hsl (hm0 k hk')⟩
        · unfold addX
          rw [tI_ne _ _ (by omega), sX_n _ _ (by omega), tI_ne _ _ (by omega)]
          exact p1
        · rw [hsl p (by omega)]
          refine ⟨q4 p hp, ?_⟩
          unfold addX
          rw [tI_ne _ _ (by omega), sX_n _ _ (by omega), tI_ne _ _ (by omega)]
          exact p2 p hp)
  have e4 : sI (sI r 94 (nI ((g.2.2.2.2.1 0) + 1))) 95 (r.1 95) = sI r 94 (nI ((g.2.2.2.2.1 0) + 1)) := by
    unfold sI
    exact congrArg (fun f => (f, r.2)) (upN_i (upN r.1 94 (nI ((g.2.2.2.2.1 0) + 1))) 95)
  rw [e4] at e
  have e5 : gF g 27 ((g.2.2.2.2.2 27)) = g := by
    unfold gF
    rw [upN_i]
  rw [e5] at e
  exact e
theorem w_add (hw : World K tb g r x h) (hn : (g.2.2.2.2.1 0) < 40) {F S : Nat → Int32} {z : Nat} (hz : 5 ≤ z ∧ z ≤ 29) (hS : ∀ p, p < 32 * (g.2.2.2.2.1 0) → S p = (r.2.2.1 139) p) (hF : ∀ k, k < z → isB (S (32 * (g.2.2.2.2.1 0) + k)) ∧ F k = sb (S (32 * (g.2.2.2.2.1 0) + k))) (hm : slM g (fun k => S (32 * (g.2.2.2.2.1 0) + k)) z ((r.2.2.1 123)) ((r.2.2.1 127))) : World K tb (addG g z) (addR r (g.2.2.2.2.1 0) S z) (addX x (g.2.2.2.2.1 0) ((g.2.2.2.2.2 27) (g.2.2.2.2.1 0)) F z) h := w_addZ hw hn ⟨fun k hk => upN_n _ _ (by omega), upN_s _ _ _⟩ hz hS hF hm
end
