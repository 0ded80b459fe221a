/-! one failure, a tree of its own -/
section
variable {K : Nat → pcell} {tb : Nat} {g g' : gS} {r r' r0 r1 r2 : rS} {x x' : xS} {h h' : pheap} {a n k m i c p q d : Nat} {Q : Option Value → pheap → Prop} {nt e : Int32}
def loF (nt : Int32) (i : Nat) : Nat → Int32 := fun k => if k = 1 then nt else if k = 2 then nI i else 0
def lnH (h : pheap) (nt : Int32) (i : Nat) : pheap := hset (hset (hnew h 20 5 (fun _ => dflA 20)) h.1 1 (.int nt)) h.1 2 (.int (nI i))
theorem lnH_1 : (lnH h nt i).1 = h.1 + 1 := rfl
theorem lnH_u : (lnH h nt i).2.1 = h.2.1 + 5 := rfl
theorem lnH_o (hk : k ≠ h.1) : (lnH h nt i).2.2 k = h.2.2 k := by
  unfold lnH
  rw [hs_o _ _ hk, hs_o _ _ hk, hn_o _ _ _ hk]
theorem lnH_s : cRow 20 (5, loF nt i) ((lnH h nt i).2.2 h.1) := by
  unfold lnH
  simp only [hs_s, hn_s]
  refine ⟨rfl, rfl, (by show (5 : Nat) ≤ 1000; omega), fun k hk => ?_⟩
  obtain rfl | rfl | rfl | rfl | rfl : k = 0 ∨ k = 1 ∨ k = 2 ∨ k = 3 ∨ k = 4 := by
    have hk' : k < 5 := hk
    omega
  all_goals rfl
theorem x_lone (hw : World K tb g r x h) (hi : i < (g.1 0 3)) : Go (d + 2) 110 0 [.int nt, .ref ((g.1 4) i), mk0] [] (putR r0 (putX x h)) Q = Q (some (.ref h.1)) (putR r0 (putX x (lnH h nt i))) := by
  have hh := sim_146 hw.1
  obtain ⟨k1, k2, kt, k3, -⟩ := s_dsk hw.1 hi
  unfold lnH
  simp (disch := first | exact c1_i _ | exact c1_r _ | exact c1_n | exact c1_m | omega | assumption | (simp only [hn_1, hs_1, hC_1]; omega) | (apply ac_l; omega) | (apply ac_r; omega) | decide | exact Or.inl rfl) only [e_110_0, e_110_1, e_110_3, e_110_3n, e_110_4, e_110_4n, e_110_5, e_110_6, e_110_7, e_110_8, e_110_8n, e_110_9, e_110_10, e_110_10n, e_110_11, e_110_14, e_110_15, e_110_15n, e_110_16, e_110_16n, Option.toList_some, Option.toList_none, List.cons_append, List.nil_append, catS_cons, catS_nil, cat_int, cat_long, cat_ref, cat_null, c1_i, c1_r, c1_n, c1_m, true_and, and_true, and_self, putR_1, putR_u, eq_self, Nat.reduceLT, Nat.reduceLeDiff, Nat.reduceAdd, Nat.reduceEqDiff, vk_i, vk_l, vk_r, vk_n, vk_0, vk_1, if_true, if_false, not_true_eq_false, not_false_eq_true, false_and, and_false, ne_eq, true_or, or_true, ite_not, reduceCtorEq, putX_1, putX_u, putX_hi, hset_Xhi, px_5, xf_5_0, xf_5_1, xI_5_1, xf_5_2, xR_0, xf_5_3, xI_5_3, xf_5_4, xI_5_4, xf_5_5, xf_5_6, xI_5_6, xf_5_7, xf_5_8, xf_5_9, xf_5_10, xf_5_11, xf_5_12, xf_5_13, xf_5_14, xf_5_15, xI_5_15, px_6, xA_6, px_18, xA_18, px_19, xf_19_0, xI_19_0, xf_19_1, xR_1, xf_19_2, xI_19_2, px_20, xf_20_0, xI_20_0, xf_20_1, xR_2, xf_20_2, xI_20_2, px_21, xf_21_0, xI_21_0, xf_21_1, xR_3, xf_21_2, xI_21_2, px_22, xf_22_0, xI_22_0, xf_22_1, xR_4, xf_22_2, xI_22_2, px_23, xf_23_0, xI_23_0, xf_23_1, xR_5, xf_23_2, xI_23_2, px_24, xf_24_0, xI_24_0, xf_24_1, xR_6, xf_24_2, xI_24_2, px_25, xf_25_0, xI_25_0, xf_25_1, xI_25_1, xf_25_2, xf_25_3, xI_25_3, xf_25_4, xf_25_5, xf_25_6, px_26, xA_26, px_27, px_28, xA_28, px_29, xA_29, px_30, xA_30, px_31, xA_31, px_32, xA_32, px_33, xA_33, px_34, xA_34, px_35, xA_35, px_36, xA_36, px_37, xA_37, px_38, xA_38, px_39, xA_39, px_40, xA_40, px_41, xA_41, px_42, xA_42, px_43, xA_43, px_44, xA_44, px_45, xA_45, px_46, xA_46, px_47, xA_47, px_48, xA_48, px_49, xA_49, px_50, xA_50, px_51, xA_51, px_52, xA_52, px_53, xA_53, px_54, xA_54, px_55, xA_55, px_56, xA_56, px_57, xA_57, px_58, xA_58, px_59, xA_59, px_60, xA_60, px_61, xA_61, px_62, xA_62, px_63, xA_63, px_64, xA_64, px_65, xA_65, px_66, xA_66, px_67, xA_67, px_68, xA_68, px_69, xA_69, px_70, xf_70_0, xI_70_0, xf_70_1, xI_70_1, xf_70_2, xI_70_2, xf_70_3, xf_70_4, px_71, xA_71, px_72, xA_72, ni_ixL, ni_clL, ni_add, ni_mul, ni_lt, ni_le, ni_eq, ni_clamp, ni_ix, ni_lt0, ni_0le, ni_ltL, ni_Llt, ni_leL, ni_Lle, ni_eqL, ni_addL, ni_Ladd, ni_mulL, ni_Lmul, ni_subL, ni_sub, ni_Lsub, le_t, le_f, lt_t, lt_f, eq_f, il_lt, il_l0, il_g0, il_l1, il_g1, il_l2, il_g2, il_l3, il_g3, il_l4, il_g4, il_l5, il_g5, il_l7, il_g7, il_l8, il_g8, il_l9, il_g9, il_l10, il_g10, il_l15, il_g15, il_l20, il_g20, il_l23, il_g23, il_l24, il_g24, il_l60, il_g60, il_l100, il_g100, il_l999, il_g999, il_l1000, il_g1000, putR_lo, hset_lo, putR_lt hh, rd_hi, wr_hi, hs_1, hs_s, hs_o, uv_s, uv_o, pv_0, pv_n, i1_0, bs_0, bs_1, im_lt, im_ge, im_eq, ni_em, nw_hi, hn_1, hn_s, hn_o, ni_Ll0, kt, k3]
def flR (r : rS) (nt : Int32) (i : Nat) : rS := sA (sR (sI r 78 1) 132 (wrF ((r.2.2.1 132)) (loF nt i) 3600 5)) 131 60 1
theorem fl_rows : sA (sA (sA (sA (sA r 132 3600 0) 132 3601 nt) 132 3602 (nI i)) 132 3603 0) 132 3604 0 = sR r 132 (wrF ((r.2.2.1 132)) (loF nt i) 3600 5) := by
  have e0 : sR r 132 (wrF ((r.2.2.1 132)) (loF nt i) 3600 0) = r := by rw [wrF_0]; exact sR_i r 132
  have e := fun j => wrF_u ((r.2.2.1 132)) (loF nt i) 3600 j
  have f0 := e 0
  have f1 := e 1
  have f2 := e 2
  have f3 := e 3
  have f4 := e 4
  simp only [Nat.reduceAdd] at f0 f1 f2 f3 f4
  rw [← f4, ← sA_R, ← f3, ← sA_R, ← f2, ← sA_R, ← f1, ← sA_R, ← f0, ← sA_R, e0]
  rfl
theorem r_fails (hh : 146 ≤ h.1) : Go (d + 2) 242 0 [.ref 73, .int nt, .int (nI i)] [] (putR r h) Q = Q none (putR (flR r nt i) h) := by
  have e : sA (sA (sA (sA (sA (sA (sA (sI r 78 1) 131 60 0) 132 3600 0) 132 3601 nt) 132 3602 (nI i)) 132 3603 0) 132 3604 0) 131 60 1 = flR r nt i := by
    rw [fl_rows]
    unfold flR
    rw [sA_R2 _ _ _ _ (by decide), sA_A, sA_R2 _ _ _ _ (by decide)]
    rfl
  rw [← e]
  have c0 : (60 : Int32) * 60 + 5 * 0 = nI 3600 := by decide
  have c1 : (0 : Int32) + 1 = 1 := by decide
  simp (disch := first | exact c1_i _ | exact c1_r _ | exact c1_n | exact c1_m | omega | assumption | (apply ac_l; omega) | (apply ac_r; omega) | decide | exact Or.inl rfl) only [e_242_0, e_242_0n, e_242_1, e_242_2, e_242_5, e_242_5n, e_242_6, e_242_8, e_242_11, e_242_11n, e_242_12, e_242_14, e_242_15, e_242_16, e_242_17, e_242_18, e_242_19, e_242_22, e_231_0, e_231_0n, e_231_1, e_231_4, e_231_5, e_231_6, e_231_7, e_243_0, e_243_2, e_243_3, e_243_4, e_243_5, e_243_5n, e_243_6, e_243_9, e_243_10, e_243_11, e_243_12, e_243_13, e_243_15, e_243_15n, e_243_16, e_243_19, e_243_21, e_243_22, e_243_23, e_243_23n, e_243_24, e_243_27, e_243_29, e_243_30, e_243_31, e_243_32, e_243_33, e_243_33n, e_243_34, e_243_37, e_243_39, e_243_40, e_243_41, e_243_43, e_243_44, e_243_44n, e_243_45, e_243_48, e_243_50, e_243_51, e_243_52, e_243_54, e_243_55, e_243_55n, e_243_56, e_243_59, e_243_61, e_243_62, e_243_63, e_243_65, e_243_66, e_243_66n, e_243_67, e_243_70, e_243_71, e_243_72, e_243_73, e_243_74, e_243_75, e_243_76, Option.toList_some, Option.toList_none, List.cons_append, List.nil_append, catS_cons, catS_nil, cat_int, cat_long, cat_ref, cat_null, c1_i, c1_r, c1_n, c1_m, true_and, and_true, and_self, putR_1, putR_u, eq_self, Nat.reduceLT, Nat.reduceLeDiff, Nat.reduceAdd, Nat.reduceEqDiff, vk_i, vk_l, vk_r, vk_n, vk_0, vk_1, if_true, if_false, not_true_eq_false, not_false_eq_true, false_and, and_false, ne_eq, true_or, or_true, ite_not, reduceCtorEq, pr_73, pr_74, pr_75, pr_76, pr_77, pr_78, pr_79, pr_80, pr_81, pr_82, pr_83, pr_84, pr_85, pr_86, pr_87, pr_88, pr_89, pr_90, pr_91, pr_92, pr_93, pr_94, pr_95, pr_96, pr_97, pr_98, pr_99, pr_100, pr_101, pr_102, pr_103, pr_104, pr_105, pr_106, pr_107, pr_108, pr_109, pr_110, pr_111, pr_112, pr_113, pr_114, pr_115, pr_116, pr_117, pr_118, pr_119, pr_120, pr_121, pr_122, pr_123, pr_124, pr_125, pr_126, pr_127, pr_128, pr_129, pr_130, pr_131, pr_132, pr_133, pr_134, pr_135, pr_136, pr_137, pr_138, pr_139, pr_140, pr_141, pr_142, pr_143, pr_144, pr_145, rf_0, rf_1, hI_1, rf_2, hI_2, rf_3, hI_3, rf_4, hI_4, rf_5, hI_5, rf_6, hI_6, rf_7, hI_7, rf_8, rf_9, rf_10, rf_11, hI_11, rf_12, rf_13, rf_14, rf_15, rf_16, hI_16, rf_17, rf_18, rf_19, rf_20, rf_21, rf_22, rf_23, hI_23, rf_24, rf_25, rf_26, rf_27, rf_28, hI_28, rf_29, rf_30, hI_30, rf_31, rf_32, hI_32, rf_33, hI_33, rf_34, rf_35, rf_36, rf_37, rf_38, rf_39, rf_40, rf_41, hI_41, rf_42, rf_43, rf_44, rf_45, rf_46, rf_47, rf_48, rf_49, rf_50, hI_50, rf_51, rf_52, rf_53, rf_54, rf_55, rf_56, rf_57, hI_57, rf_58, rf_59, rf_60, rf_61, rf_62, rf_63, rf_64, rf_65, rf_66, rf_67, rf_68, rf_69, rf_70, rf_71, rf_72, rf_73, rf_74, rf_75, hI_75, rf_76, rf_77, rf_78, hI_78, rf_79, rf_80, rf_81, hI_81, rf_82, hI_82, rf_83, rf_84, hI_84, rf_85, rf_86, rf_87, hI_87, rf_88, hI_88, rf_89, hI_89, rf_90, hI_90, rf_91, rf_92, rf_93, rf_94, hI_94, rf_95, hI_95, rf_96, rf_97, rf_98, rf_99, rf_100, hset_W, hA_74, hL_75, hA_76, hL_77, hA_78, hL_79, hA_80, hL_81, hA_82, hL_83, hA_84, hA_85, hA_86, hL_87, hA_88, hA_89, hA_90, hA_91, hA_92, hA_93, hA_94, hA_95, hA_96, hA_97, hA_98, hA_99, hA_100, hA_101, hA_102, hA_103, hA_104, hA_105, hL_106, hA_107, hA_108, hA_109, hA_110, hA_111, hA_112, hA_113, hA_114, hA_115, hA_116, hA_117, hA_118, hA_119, hA_120, hA_121, hA_122, hA_123, hA_124, hA_125, hA_126, hA_127, hA_128, hA_129, hA_130, hA_131, hA_132, hA_133, hA_134, hA_135, hA_136, hA_137, hA_138, hA_139, hA_140, hA_141, hA_142, hA_143, hA_144, hA_145, ni_ixL, ni_clL, ni_add, ni_mul, ni_lt, ni_le, ni_eq, ni_clamp, ni_ix, ni_lt0, ni_0le, ni_ltL, ni_Llt, ni_leL, ni_Lle, ni_eqL, ni_addL, ni_Ladd, ni_mulL, ni_Lmul, ni_subL, ni_sub, ni_Lsub, le_t, le_f, lt_t, lt_f, eq_f, il_lt, il_l0, il_g0, il_l1, il_g1, il_l2, il_g2, il_l3, il_g3, il_l4, il_g4, il_l5, il_g5, il_l7, il_g7, il_l8, il_g8, il_l9, il_g9, il_l10, il_g10, il_l15, il_g15, il_l20, il_g20, il_l23, il_g23, il_l24, il_g24, il_l60, il_g60, il_l100, il_g100, il_l999, il_g999, il_l1000, il_g1000, r_in, putR_lt hh, sA_1, sA_s, i1_0, bs_0, bs_1, im_lt, im_ge, im_eq, ni_em, c0, sA_a, c1]
theorem sc_fl : SC (flR r nt i) r := by
  refine sc_t ?_ (sc_fail 1)
  refine ⟨fun _ _ _ _ _ _ _ _ _ => rfl, rfl, fun a q0 q1 q2 q3 q4 q5 q6 q7 q8 q9 q10 => ?_, fun _ _ => rfl, fun j hj => ?_, fun k hk => ?_, fun _ _ => ⟨rfl, rfl, fun _ _ => rfl⟩⟩
  · unfold flR
    rw [sA_a _ _ _ q7, sR_n _ _ q8]
  · exact upN_n _ _ (by omega)
  · exact wrF_o _ _ (Or.inl hk)
theorem lone_ok (hw : World K tb g r x h) (hi : i < (g.1 0 3)) : World K tb (gP g h.1 3 (0, 0, 0) (5, loF nt i)) (flR r nt i) x (lnH h nt i) ∧ Out (gP g h.1 3 (0, 0, 0) (5, loF nt i)) (flR r nt i) (lnH h nt i) e 0 h.1 1 := by
  have hh := sim_146 hw.1
  have t0 := sim_top hw.1 (Nat.le_refl h.1)
  have hs1 : Sim K g r x (lnH h nt i) := sim_junk (sim_junk (sim_new hw.1 _ _ _) t0 hh _ _) t0 hh _ _
  have w1 := w_prom (w := (0, 0, 0)) (w2 := (5, loF nt i)) (k := 3) (⟨hs1, hw.2⟩ : World K tb g r x (lnH h nt i)) t0 hh (by rw [lnH_1]; omega) ⟨by omega, by omega⟩ (fun z => by omega) (fun z => by omega) (fun _ => lnH_s)
  have hkn : 1 ≤ (g.2.2.2.2.1 1) := hw.2.1.1.2.2.2.2.2.2.2.2.2.1.2.1
  refine ⟨w_sc w1 sc_fl, Or.inr ⟨rfl, rfl, by omega, ⟨hh, by rw [lnH_1]; omega, gP_ro⟩, by omega, by omega, (by unfold flR; rw [sA_s]; rfl), by rw [gP_ar], fun k hk => ?_, fun j hj => ⟨0, hkn, ?_⟩⟩⟩
  · rw [gP_ar]
    exact (wrF_i ((r.2.2.1 132)) (loF nt i) (s := 3600) (j := 5) hk).symm
  · obtain rfl : j = 0 := by omega
    exact wrF_i ((r.2.2.1 132)) (loF nt i) (s := 3600) (j := 5) (k := 0) (by omega)
end
