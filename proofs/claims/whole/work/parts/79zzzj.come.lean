/-! the values of a message come to a desk -/
section
variable {K : Nat → pcell} {tb : Nat} {g g' g0 g1 g2 : gS} {r r' r0 v v' R ra : rS} {x x' x0 x1 : xS} {h h' h0 h1 : pheap} {d : Nat} {Q : Option Value → pheap → Prop} {a n k m rc b L n0 p q j t c c2 c3 no A ce ce0 T Dn N i ar sa D o e : Nat} {F fs sr w : Nat → Int32} {l l' : List Nat} {s z : Int32} {os fc as nd : Nat → Nat} {S S' : Nat → Prop}
def cmH (h : pheap) (b n0 N : Nat) : pheap := hnew (hset h b 1 (.int (nI n0))) 25 N (fun _ => .null)
theorem x_come0 (hw : World K tb g r x h) (hb : 146 ≤ b ∧ b < h.1) (t6 : (h.2.2 b).1 = 6) (hsa : 146 ≤ sa ∧ sa < h.1 ∧ sa ≠ b) (hs20 : (h.2.2 sa).1 = 20 ∧ (h.2.2 sa).2.1 = N) (hN : N ≤ 3) : Go (d + 3) 143 0 [.ref 5, .ref D, .ref b, .ref sa, mk0, mk0, mk0] [] (putR r0 (putX x h)) Q = Go (d + 3) 143 25 [.ref 5, .ref D, .ref b, .ref sa, .int (nI (g.1 0 1)), .ref h.1, .int (nI 0)] [] (putR r0 (putX x (cmH h b (g.1 0 1) N))) Q := by
  have hh := sim_146 hw.1
  obtain ⟨n1, n2, n3⟩ := w_nn hw
  obtain ⟨b1, b2⟩ := hb
  obtain ⟨s1, s2, s0⟩ := hsa
  obtain ⟨s3, s4⟩ := hs20
  have hso : (hset h b 1 (.int (nI (g.1 0 1)))).2.2 sa = h.2.2 sa := hs_o _ _ s0
  unfold cmH
  simp (disch := first | exact c1_i _ | exact c1_r _ | exact c1_n | exact c1_m | omega | assumption | (simp only [hn_1, hs_1, hC_1]; omega) | (apply ac_l; omega) | (apply ac_r; omega) | decide | exact Or.inl rfl) only [e_143_0, e_143_0n, e_143_1, e_143_4, e_143_7, e_143_9, e_143_9n, e_143_10, e_143_12, e_143_15, e_143_15n, e_143_16, e_143_17, e_143_20, e_143_20n, e_143_22, e_143_23, e_36_0, e_36_0n, e_36_1, e_36_4, Option.toList_some, Option.toList_none, List.cons_append, List.nil_append, catS_cons, catS_nil, cat_int, cat_long, cat_ref, cat_null, c1_i, c1_r, c1_n, c1_m, true_and, and_true, and_self, putR_1, putR_u, eq_self, Nat.reduceLT, Nat.reduceLeDiff, Nat.reduceAdd, Nat.reduceEqDiff, vk_i, vk_l, vk_r, vk_n, vk_0, vk_1, if_true, if_false, not_true_eq_false, not_false_eq_true, false_and, and_false, ne_eq, true_or, or_true, ite_not, reduceCtorEq, putX_1, putX_u, putX_hi, hset_Xhi, px_5, xf_5_0, xf_5_1, xI_5_1, xf_5_2, xR_0, xf_5_3, xI_5_3, xf_5_4, xI_5_4, xf_5_5, xf_5_6, xI_5_6, xf_5_7, xf_5_8, xf_5_9, xf_5_10, xf_5_11, xf_5_12, xf_5_13, xf_5_14, xf_5_15, xI_5_15, px_6, xA_6, px_18, xA_18, px_19, xf_19_0, xI_19_0, xf_19_1, xR_1, xf_19_2, xI_19_2, px_20, xf_20_0, xI_20_0, xf_20_1, xR_2, xf_20_2, xI_20_2, px_21, xf_21_0, xI_21_0, xf_21_1, xR_3, xf_21_2, xI_21_2, px_22, xf_22_0, xI_22_0, xf_22_1, xR_4, xf_22_2, xI_22_2, px_23, xf_23_0, xI_23_0, xf_23_1, xR_5, xf_23_2, xI_23_2, px_24, xf_24_0, xI_24_0, xf_24_1, xR_6, xf_24_2, xI_24_2, px_25, xf_25_0, xI_25_0, xf_25_1, xI_25_1, xf_25_2, xf_25_3, xI_25_3, xf_25_4, xf_25_5, xf_25_6, px_26, xA_26, px_27, px_28, xA_28, px_29, xA_29, px_30, xA_30, px_31, xA_31, px_32, xA_32, px_33, xA_33, px_34, xA_34, px_35, xA_35, px_36, xA_36, px_37, xA_37, px_38, xA_38, px_39, xA_39, px_40, xA_40, px_41, xA_41, px_42, xA_42, px_43, xA_43, px_44, xA_44, px_45, xA_45, px_46, xA_46, px_47, xA_47, px_48, xA_48, px_49, xA_49, px_50, xA_50, px_51, xA_51, px_52, xA_52, px_53, xA_53, px_54, xA_54, px_55, xA_55, px_56, xA_56, px_57, xA_57, px_58, xA_58, px_59, xA_59, px_60, xA_60, px_61, xA_61, px_62, xA_62, px_63, xA_63, px_64, xA_64, px_65, xA_65, px_66, xA_66, px_67, xA_67, px_68, xA_68, px_69, xA_69, px_70, xf_70_0, xI_70_0, xf_70_1, xI_70_1, xf_70_2, xI_70_2, xf_70_3, xf_70_4, px_71, xA_71, px_72, xA_72, ni_ixL, ni_clL, ni_add, ni_mul, ni_lt, ni_le, ni_eq, ni_clamp, ni_ix, ni_lt0, ni_0le, ni_ltL, ni_Llt, ni_leL, ni_Lle, ni_eqL, ni_addL, ni_Ladd, ni_mulL, ni_Lmul, ni_subL, ni_sub, ni_Lsub, le_t, le_f, lt_t, lt_f, eq_f, il_lt, il_l0, il_g0, il_l1, il_g1, il_l2, il_g2, il_l3, il_g3, il_l4, il_g4, il_l5, il_g5, il_l7, il_g7, il_l8, il_g8, il_l9, il_g9, il_l10, il_g10, il_l15, il_g15, il_l20, il_g20, il_l23, il_g23, il_l24, il_g24, il_l60, il_g60, il_l100, il_g100, il_l999, il_g999, il_l1000, il_g1000, putR_lo, hset_lo, putR_lt hh, rd_hi, wr_hi, hs_1, hs_s, hs_o, uv_s, uv_o, pv_0, pv_n, i1_0, bs_0, bs_1, im_lt, im_ge, im_eq, ni_em, nw_hi, hn_1, hn_s, hn_o, ni_Ll0, n3, t6, hso, s3, s4]
  rfl
theorem x_c59L (hw : World K tb g r x h) (hb : 146 ≤ b ∧ b < h.1) (t6 : (h.2.2 b).1 = 6) (h2 : (h.2.2 b).2.2 2 = .int 1) {Z : Value} : Go (d + 3) 143 59 [.ref 5, .ref D, .ref b, .ref sa, .int (nI n0), .ref ar, Z] [] (putR r0 (putX x h)) Q = Go (d + 3) 143 77 [.ref 5, .ref D, .ref b, .ref sa, .int (nI n0), .ref ar, .int (nI (g.1 0 1) - 1)] [] (putR r0 (putX x h)) Q := by
  have hh := sim_146 hw.1
  obtain ⟨n1, n2, n3⟩ := w_nn hw
  obtain ⟨b1, b2⟩ := hb
  have e1 := fun Q => x_size_node (d := d + 1) (r0 := r0) (Q := Q) hw
  simp (disch := first | exact c1_i _ | exact c1_r _ | exact c1_n | exact c1_m | omega | assumption | (apply ac_l; omega) | (apply ac_r; omega) | decide | exact Or.inl rfl) only [e_143_59, e_143_59n, e_143_60, e_143_63, e_143_66, e_143_66n, e_143_67, e_143_70, e_143_73, e_143_74, e_143_75, Option.toList_some, Option.toList_none, List.cons_append, List.nil_append, catS_cons, catS_nil, cat_int, cat_long, cat_ref, cat_null, c1_i, c1_r, c1_n, c1_m, true_and, and_true, and_self, putR_1, putR_u, eq_self, Nat.reduceLT, Nat.reduceLeDiff, Nat.reduceAdd, Nat.reduceEqDiff, vk_i, vk_l, vk_r, vk_n, vk_0, vk_1, if_true, if_false, not_true_eq_false, not_false_eq_true, false_and, and_false, ne_eq, true_or, or_true, ite_not, reduceCtorEq, putX_1, putX_u, putX_hi, hset_Xhi, px_5, xf_5_0, xf_5_1, xI_5_1, xf_5_2, xR_0, xf_5_3, xI_5_3, xf_5_4, xI_5_4, xf_5_5, xf_5_6, xI_5_6, xf_5_7, xf_5_8, xf_5_9, xf_5_10, xf_5_11, xf_5_12, xf_5_13, xf_5_14, xf_5_15, xI_5_15, px_6, xA_6, px_18, xA_18, px_19, xf_19_0, xI_19_0, xf_19_1, xR_1, xf_19_2, xI_19_2, px_20, xf_20_0, xI_20_0, xf_20_1, xR_2, xf_20_2, xI_20_2, px_21, xf_21_0, xI_21_0, xf_21_1, xR_3, xf_21_2, xI_21_2, px_22, xf_22_0, xI_22_0, xf_22_1, xR_4, xf_22_2, xI_22_2, px_23, xf_23_0, xI_23_0, xf_23_1, xR_5, xf_23_2, xI_23_2, px_24, xf_24_0, xI_24_0, xf_24_1, xR_6, xf_24_2, xI_24_2, px_25, xf_25_0, xI_25_0, xf_25_1, xI_25_1, xf_25_2, xf_25_3, xI_25_3, xf_25_4, xf_25_5, xf_25_6, px_26, xA_26, px_27, px_28, xA_28, px_29, xA_29, px_30, xA_30, px_31, xA_31, px_32, xA_32, px_33, xA_33, px_34, xA_34, px_35, xA_35, px_36, xA_36, px_37, xA_37, px_38, xA_38, px_39, xA_39, px_40, xA_40, px_41, xA_41, px_42, xA_42, px_43, xA_43, px_44, xA_44, px_45, xA_45, px_46, xA_46, px_47, xA_47, px_48, xA_48, px_49, xA_49, px_50, xA_50, px_51, xA_51, px_52, xA_52, px_53, xA_53, px_54, xA_54, px_55, xA_55, px_56, xA_56, px_57, xA_57, px_58, xA_58, px_59, xA_59, px_60, xA_60, px_61, xA_61, px_62, xA_62, px_63, xA_63, px_64, xA_64, px_65, xA_65, px_66, xA_66, px_67, xA_67, px_68, xA_68, px_69, xA_69, px_70, xf_70_0, xI_70_0, xf_70_1, xI_70_1, xf_70_2, xI_70_2, xf_70_3, xf_70_4, px_71, xA_71, px_72, xA_72, ni_ixL, ni_clL, ni_add, ni_mul, ni_lt, ni_le, ni_eq, ni_clamp, ni_ix, ni_lt0, ni_0le, ni_ltL, ni_Llt, ni_leL, ni_Lle, ni_eqL, ni_addL, ni_Ladd, ni_mulL, ni_Lmul, ni_subL, ni_sub, ni_Lsub, le_t, le_f, lt_t, lt_f, eq_f, il_lt, il_l0, il_g0, il_l1, il_g1, il_l2, il_g2, il_l3, il_g3, il_l4, il_g4, il_l5, il_g5, il_l7, il_g7, il_l8, il_g8, il_l9, il_g9, il_l10, il_g10, il_l15, il_g15, il_l20, il_g20, il_l23, il_g23, il_l24, il_g24, il_l60, il_g60, il_l100, il_g100, il_l999, il_g999, il_l1000, il_g1000, putR_lo, hset_lo, putR_lt hh, rd_hi, wr_hi, hs_1, hs_s, hs_o, uv_s, uv_o, pv_0, pv_n, i1_0, bs_0, bs_1, im_lt, im_ge, im_eq, ni_em, t6, h2, e1]
theorem x_c59O (hh : 146 ≤ h.1) (hb : 146 ≤ b ∧ b < h.1) (t6 : (h.2.2 b).1 = 6) (h2 : (h.2.2 b).2.2 2 = .int 0) {Z : Value} (hrun : ∀ Q, Go d 149 0 [.ref 5, .ref D, .ref ar, mk0, mk0, mk0, mk0, mk0] [] (putR r0 (putX x h)) Q = Q none (putR r0 (putX x h'))) : Go (d + 1) 143 59 [.ref 5, .ref D, .ref b, .ref sa, .int (nI n0), .ref ar, Z] [] (putR r0 (putX x h)) Q = Go (d + 1) 143 113 [.ref 5, .ref D, .ref b, .ref sa, .int (nI n0), .ref ar, .int (nI n0)] [] (putR r0 (putX x h')) Q := by
  obtain ⟨b1, b2⟩ := hb
  simp (disch := first | exact c1_i _ | exact c1_r _ | exact c1_n | exact c1_m | omega | assumption | (apply ac_l; omega) | (apply ac_r; omega) | decide | exact Or.inl rfl) only [e_143_59, e_143_59n, e_143_60, e_143_63, e_143_102, e_143_102n, e_143_103, e_143_103n, e_143_104, e_143_104n, e_143_106, e_143_109, e_143_111, Option.toList_some, Option.toList_none, List.cons_append, List.nil_append, catS_cons, catS_nil, cat_int, cat_long, cat_ref, cat_null, c1_i, c1_r, c1_n, c1_m, true_and, and_true, and_self, putR_1, putR_u, eq_self, Nat.reduceLT, Nat.reduceLeDiff, Nat.reduceAdd, Nat.reduceEqDiff, vk_i, vk_l, vk_r, vk_n, vk_0, vk_1, if_true, if_false, not_true_eq_false, not_false_eq_true, false_and, and_false, ne_eq, true_or, or_true, ite_not, reduceCtorEq, putX_1, putX_u, putX_hi, hset_Xhi, px_5, xf_5_0, xf_5_1, xI_5_1, xf_5_2, xR_0, xf_5_3, xI_5_3, xf_5_4, xI_5_4, xf_5_5, xf_5_6, xI_5_6, xf_5_7, xf_5_8, xf_5_9, xf_5_10, xf_5_11, xf_5_12, xf_5_13, xf_5_14, xf_5_15, xI_5_15, px_6, xA_6, px_18, xA_18, px_19, xf_19_0, xI_19_0, xf_19_1, xR_1, xf_19_2, xI_19_2, px_20, xf_20_0, xI_20_0, xf_20_1, xR_2, xf_20_2, xI_20_2, px_21, xf_21_0, xI_21_0, xf_21_1, xR_3, xf_21_2, xI_21_2, px_22, xf_22_0, xI_22_0, xf_22_1, xR_4, xf_22_2, xI_22_2, px_23, xf_23_0, xI_23_0, xf_23_1, xR_5, xf_23_2, xI_23_2, px_24, xf_24_0, xI_24_0, xf_24_1, xR_6, xf_24_2, xI_24_2, px_25, xf_25_0, xI_25_0, xf_25_1, xI_25_1, xf_25_2, xf_25_3, xI_25_3, xf_25_4, xf_25_5, xf_25_6, px_26, xA_26, px_27, px_28, xA_28, px_29, xA_29, px_30, xA_30, px_31, xA_31, px_32, xA_32, px_33, xA_33, px_34, xA_34, px_35, xA_35, px_36, xA_36, px_37, xA_37, px_38, xA_38, px_39, xA_39, px_40, xA_40, px_41, xA_41, px_42, xA_42, px_43, xA_43, px_44, xA_44, px_45, xA_45, px_46, xA_46, px_47, xA_47, px_48, xA_48, px_49, xA_49, px_50, xA_50, px_51, xA_51, px_52, xA_52, px_53, xA_53, px_54, xA_54, px_55, xA_55, px_56, xA_56, px_57, xA_57, px_58, xA_58, px_59, xA_59, px_60, xA_60, px_61, xA_61, px_62, xA_62, px_63, xA_63, px_64, xA_64, px_65, xA_65, px_66, xA_66, px_67, xA_67, px_68, xA_68, px_69, xA_69, px_70, xf_70_0, xI_70_0, xf_70_1, xI_70_1, xf_70_2, xI_70_2, xf_70_3, xf_70_4, px_71, xA_71, px_72, xA_72, ni_ixL, ni_clL, ni_add, ni_mul, ni_lt, ni_le, ni_eq, ni_clamp, ni_ix, ni_lt0, ni_0le, ni_ltL, ni_Llt, ni_leL, ni_Lle, ni_eqL, ni_addL, ni_Ladd, ni_mulL, ni_Lmul, ni_subL, ni_sub, ni_Lsub, le_t, le_f, lt_t, lt_f, eq_f, il_lt, il_l0, il_g0, il_l1, il_g1, il_l2, il_g2, il_l3, il_g3, il_l4, il_g4, il_l5, il_g5, il_l7, il_g7, il_l8, il_g8, il_l9, il_g9, il_l10, il_g10, il_l15, il_g15, il_l20, il_g20, il_l23, il_g23, il_l24, il_g24, il_l60, il_g60, il_l100, il_g100, il_l999, il_g999, il_l1000, il_g1000, putR_lo, hset_lo, putR_lt hh, rd_hi, wr_hi, hs_1, hs_s, hs_o, uv_s, uv_o, pv_0, pv_n, i1_0, bs_0, bs_1, im_lt, im_ge, im_eq, ni_em, t6, h2, hrun]
/-- what comes of come, where there is room -/
def CMO (K : Nat → pcell) (tb : Nat) (Dn ce0 N : Nat) (sr : Nat → Int32) (g : gS) (r : rS) (ra : rS) (g' : gS) (v' : rS) (x' : xS) (h' : pheap) (ar : Nat) (ra' : rS) (as : Nat → Nat) : Prop :=
  World K tb g' (sR v' 95 (ra'.2.2.1 95)) x' h' ∧ VW v' r ∧ (∃ G', REL (fun c => ∃ k, k < N ∧ c = ce0 + k) G' Dn ra' v') ∧ AVl g' h' ar N N as sr ∧ (∀ k, k < N → VR g' (ra'.2.2.2 87) (ra'.2.2.1 88) (ra'.2.2.1 89) (as k) (sr k) (ce0 + k) ∧ VV (g'.1 0 1) (g'.1 0 4) ((g'.2.2.2.2.2 11)) ((g'.2.2.2.2.2 13)) (ra'.2.2.2 87 (ce0 + k)) (sr k)) ∧ ra'.2.2.1 118 = ra.2.2.1 118 ∧ TKS Dn ce0 sr N 0 ra ra' ∧ g'.2.2.2.1 ar = (0, 0) ∧ 146 ≤ ar ∧ ar < h'.1
theorem come_ok (hw : World K tb g r x h) (hD : Dn < (g.1 0 3)) (hj : j < 120) (hic : (g.2.2.2.2.2 23) j = b) (hb : b ≠ 0) (hr : RD h b L F) (h5 : (h.2.2 b).2.2 5 = .int (nI p)) (h2 : (h.2.2 b).2.2 2 = .int 0) (hsa : 146 ≤ sa ∧ sa < h.1 ∧ g.2.2.2.1 sa = (0, 0)) (hs20 : (h.2.2 sa).1 = 20 ∧ (h.2.2 sa).2.1 = N ∧ ∀ k, k < N → (h.2.2 sa).2.2 k = .int (sr k)) (hN : N ≤ 3) (hsr : ∀ k, k < N → isSrt (g.2.2.2.2.1 2) (g.2.2.2.2.1 3) (sr k)) (hp : prs ((g.2.2.2.2.2 8)) ((r.2.2.1 80)) ((g.2.2.2.2.2 13)) (g.1 0 4) F n (svL sr N 0) p [] = some (q, l')) (hqL : q ≤ L) (hce : 363 ≤ ce0 ∧ ce0 + N ≤ 790) (hra : REL (fun _ => False) (fun _ => False) Dn ra r) (hrs : RSi ra A L F p (g.1 0 1) []) : ∃ g' x' h', (h.1 < h'.1 ∧ h'.1 ≤ h.1 + 259 ∧ h'.2.1 ≤ h.2.1 + 2940) ∧ l'.length ≤ 12 ∧ GSm g' g (g.1 0 1) ∧
    ((60 < (g.1 0 1) + l'.length ∧ World K tb g' r x' h' ∧ ∀ d r0 Q, Go (d + 34) 143 0 [.ref 5, .ref ((g.1 4) Dn), .ref b, .ref sa, mk0, mk0, mk0] [] (putR r0 (putX x h)) Q = Q (some .null) (putR r0 (putX x' h'))) ∨
     ((g.1 0 1) + l'.length ≤ 60 ∧ ∃ v' ra' as, CMO K tb Dn ce0 N sr g r ra g' v' x' h' h.1 ra' as ∧ ∀ d r0 Q, Go (d + 34) 143 0 [.ref 5, .ref ((g.1 4) Dn), .ref b, .ref sa, mk0, mk0, mk0] [] (putR r0 (putX x h)) Q = Q (some (.ref h.1)) (putR r0 (putX x' h')))) := by
  have hh := sim_146 hw.1
  have hr' := hr
  obtain ⟨b1, b2, t6, -⟩ := hr
  have hnd := (w_nd hw).2.1
  have hj' : j < 120 ∧ (g.2.2.2.2.2 23) j ≠ 0 := ⟨hj, by rw [hic]; exact hb⟩
  obtain ⟨q1, q2, q3⟩ := hw.1.2.1.1 _ _ (ref_inc (x2 := x.2) hj')
  rw [hic] at q1 q2 q3
  have nsb : sa ≠ b := fun y => by rw [y, q3] at hsa; exact absurd hsa.2.2 (fun z => by cases z)
  have e0 := fun d r0 Q => x_come0 (d := d) (r0 := r0) (Q := Q) (D := (g.1 4) Dn) hw ⟨q1, q2⟩ t6 ⟨hsa.1, hsa.2.1, nsb⟩ ⟨hs20.1, hs20.2.1⟩ hN
  have hwA := w_at hw hj' (Or.inl rfl) (k := 1) (nI (g.1 0 1))
  rw [hic] at hwA
  have hw0 : World K tb g r x (cmH h b (g.1 0 1) N) := ⟨sim_new hwA.1 _ _ _, hwA.2⟩
  have c1 : (cmH h b (g.1 0 1) N).1 = h.1 + 1 := rfl
  have cu : (cmH h b (g.1 0 1) N).2.1 = h.2.1 + N := rfl
  have ca : (cmH h b (g.1 0 1) N).2.2 h.1 = (25, N, fun _ => .null) := hn_s (h := hset h b 1 (.int (nI (g.1 0 1)))) _ _ _
  have cb : (cmH h b (g.1 0 1) N).2.2 b = ((h.2.2 b).1, (h.2.2 b).2.1, updV (h.2.2 b).2.2 1 (.int (nI (g.1 0 1)))) := by
    unfold cmH
    rw [hn_o _ _ _ (by rw [hs_1]; omega), hs_s]
  have co : ∀ a, a ≠ b → a ≠ h.1 → (cmH h b (g.1 0 1) N).2.2 a = h.2.2 a := fun a y1 y2 => by
    unfold cmH
    rw [hn_o _ _ _ (by rw [hs_1]; exact y2), hs_o _ _ y1]
  have hrd : RD (cmH h b (g.1 0 1) N) b L F := by
    have := rd_set hr' (k := 1) (v := .int (nI (g.1 0 1))) (by decide) (by decide)
    exact rd_c this (by rw [c1, hs_1]; omega) (by unfold cmH; rw [hn_o _ _ _ (by rw [hs_1]; omega)]) (by unfold cmH; rw [hn_o _ _ _ (by rw [hs_1]; omega)])
  generalize cmH h b (g.1 0 1) N = H0 at *
  have hc0 := cb_0 hw0 hj hic hb hrd (by rw [cb]; dsimp only; rw [uv_s])
  have hcm : CM g H0 h.1 sa N sr := ⟨⟨hh, by omega, sim_top hw.1 (Nat.le_refl _)⟩, ⟨hsa.1, by omega, hsa.2.2⟩, by rw [co sa nsb (by omega)]; exact hs20, hN, by omega⟩
  have hav : AVl g H0 h.1 N 0 (fun _ => 0) sr := ⟨by rw [ca]; exact ⟨rfl, rfl⟩, fun k hk => by omega⟩
  have l12 := prs_12 _ _ _ _ _ _ hp (by decide)
  have hcb : b ≠ h.1 := by omega
  obtain ⟨g', v', x', h', H0', y1, y2, y3, ⟨y4, y4'⟩, ⟨y5, y5'⟩, yv, y6, y7⟩ := vals (D := (g.1 4) Dn) (show Dn < 8 by omega) hce N 0 (fun _ => 0) g r x H0 H0 [] p n ra (fun _ => False) (by omega) hcm hc0 (by rw [cb]; dsimp only; rw [uv_o _ _ (by decide)]; exact h5) (by rw [cb]; dsimp only; rw [uv_o _ _ (by decide)]; exact h2) rfl (fun i rc y => by cases y) hav hsr hp hqL (by decide) (rel_P hra (fun c y => y.elim)) hrs ⟨fun k hk => by omega, fun o => ⟨fun y => y.elim, fun y => by
    rcases y with ⟨k, hk, -⟩ | ⟨m, k, e1, e2, -⟩
    · omega
    · omega⟩⟩
  have hgs := y1.2.2.2.2.1
  have hb6 := y1.2.1
  have hw' := y1.1
  rcases y7 with ⟨z1, z2⟩ | ⟨z1, z2, ra', G', as, z3, z4, z5, z6, zs, z7⟩
  · have hW0 := y2.2.2.2 r hw0
    obtain ⟨n1, n2, n3⟩ := w_nn hw'
    obtain ⟨l1, l2, l3, l4, l5, l6, l7, l8⟩ := l_node hw'
    obtain ⟨x2, h2', hrm, hrun⟩ := l_rem (n0 := (g.1 0 1)) (nd := (g'.1 2)) (D := (g.1 4) Dn) (b := b) (sa := sa) (ar := h.1) ((g'.1 0 1) - (g.1 0 1)) x' h' (nI (g'.1 0 1) - 1) (by rw [Int32.sub_add_cancel, show (g.1 0 1) + ((g'.1 0 1) - (g.1 0 1)) = (g'.1 0 1) by omega]) (by omega) (by rw [n3, show (g.1 0 1) + ((g'.1 0 1) - (g.1 0 1)) = (g'.1 0 1) by omega]) (sim_146 hw'.1) (fun y => by
      rw [show (g.1 0 1) + ((g'.1 0 1) - (g.1 0 1)) = (g'.1 0 1) by omega]
      exact ⟨by omega, l4, l5, by omega, by omega, l8⟩)
    obtain ⟨m1, m2, m3, m4, m5, m6, m7⟩ := hrm
    have hwb := w_back hW0 y1 rfl m1 m2 m3 m4 m6 m7
    refine ⟨bkG g (x'.2 2), x2, h2', ⟨by omega, by omega, by omega⟩, l12, gsm_r, Or.inl ⟨z2, hwb, fun d r0 Q => ?_⟩⟩
    rw [e0 (d + 31), y6 d, x_c59L (d := d + 31) hw' ⟨hb6.1, by have := hb6.2.1; omega⟩ hb6.2.2.1 z1]
    exact hrun (d + 30) r0 Q
  · obtain ⟨o1, o2⟩ := cb_o y1 (a := h.1) (by rw [y2.1]; omega) (sim_top hw.1 (Nat.le_refl _))
    have hnn' := (w_nn hw').2.1
    have fnd : (g'.1 0 3) = (g.1 0 3) := hgs.1 _ (by decide)
    have frn : (g'.2.2.2.2.1 2) = (g.2.2.2.2.1 2) := congrFun hgs.2.2.2.1 _
    have fsn : (g'.2.2.2.2.1 3) = (g.2.2.2.2.1 3) := congrFun hgs.2.2.2.1 _
    have fdk : (g'.1 4) = (g.1 4) := hgs.2.1 _ (by decide) (by decide)
    have hD' : Dn < (g'.1 0 3) := by rw [fnd]; exact hD
    have e1 : sR v' 95 (v'.2.2.1 95) = v' := by
      unfold sR
      rw [upN_i]
    have hw1 : World K tb g' (sR v' 95 (v'.2.2.1 95)) x' h' := by rw [e1]; exact hw'
    have hdk : h.1 ≠ (g'.1 4) Dn + 1 := fun y => by
      have := (hw'.1.2.1.1 _ _ (ref_d1 (x2 := x'.2) hD')).2.2
      rw [← y, o2] at this
      cases this
    obtain ⟨w1, h1, u1, u2, ⟨u3, u4, u5⟩, u6⟩ := x_give (as := as) (sr := sr) (n := N) (ar := h.1) (S := fun _ => False) hw1 hD' ⟨hh, by omega⟩ hdk (by omega) ⟨fun _ y => y.elim, fun _ _ => rfl⟩ (fun k hk => by
      obtain ⟨p1, p2, p3⟩ := z5.2 k hk
      obtain ⟨p4, p5⟩ := z6.1 k hk
      exact ⟨p2, p3, by rw [frn, fsn]; exact hsr k hk, fun h4 => by rw [(p4.2.1 h4).1]; exact p5⟩) z5.1.1 z5.1.2 (fun k hk => (z5.2 k hk).1)
    obtain ⟨w2, h2', v1, v2, ⟨v3, v4, v5⟩, v6⟩ := gvn_all (b := b) (sa := sa) (n0 := (g.1 0 1)) (ar := h.1) hD' ((g'.1 0 1) - (g.1 0 1)) (g.1 0 1) _ w1 h1 (by omega) u1 u2
    have hG : ∀ o, G' o ↔ ((False ∨ ∃ k, k < N ∧ occ g' (as k) o) ∨ ocN g' (g.1 0 1) (g'.1 0 1) o) := fun o => by
      rw [z6.2 o]
      exact or_congr ⟨Or.inr, fun y => y.resolve_left id⟩ Iff.rfl
    have v2' := gv_i v2 hG
    have ew : w2 = ra'.2.2.1 95 := funext fun i => by
      by_cases y : ∃ o, G' o ∧ i = 24 * Dn + o
      · obtain ⟨o, o1, rfl⟩ := y
        rw [(v2'.1 o o1).2, (z3.2.2.1 o o1).2]
      · have y' : ∀ o, G' o → i ≠ 24 * Dn + o := fun o h1 h2 => y ⟨o, h1, h2⟩
        rw [v2'.2 i y', z3.2.2.2 i y']
    rw [ew] at v1
    have hcell : h2'.2.2 h.1 = h'.2.2 h.1 := (v5 _ hdk).trans (u5 _ hdk)
    refine ⟨g', x', h2', ⟨by omega, by omega, by omega⟩, l12, hgs, Or.inr ⟨by omega, v', ra', as, ⟨v1, yv, ⟨G', z3⟩, ⟨by rw [hcell]; exact z5.1, fun k hk => ?_⟩, z6.1, zs, z7, o2, hh, by omega⟩, fun d r0 Q => ?_⟩⟩
    · obtain ⟨p1, p2, p3⟩ := z5.2 k hk
      exact ⟨by rw [hcell]; exact p1, ⟨p2.1, by have := p2.2.1; omega, p2.2.2⟩, p3⟩
    · have u6' := fun Q => u6 (d + 27) r0 Q
      have v6' := v6 (d + 27) r0 Q
      rw [fdk] at u6' v6'
      rw [e0 (d + 31), y6 d, x_c59O (d := d + 33) (sim_146 hw'.1) ⟨hb6.1, by have := hb6.2.1; omega⟩ hb6.2.2.1 z1 u6']
      exact v6'
end
