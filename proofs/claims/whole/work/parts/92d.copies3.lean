theorem q_290_0 : decode (mB 290) 0 = .ok (.iload_n 1, 1) := by decide +kernel
theorem q_290_1 : decode (mB 290) 1 = .ok (.aload_n 0, 1) := by decide +kernel
theorem q_290_2 : decode (mB 290) 2 = .ok (.arraylength, 1) := by decide +kernel
theorem q_290_3 : decode (mB 290) 3 = .ok (.if_icmp .ne 11, 3) := by decide +kernel
theorem q_290_6 : decode (mB 290) 6 = .ok (.aload_n 0, 1) := by decide +kernel
theorem q_290_7 : decode (mB 290) 7 = .ok (.invokevirtual 310, 3) := by decide +kernel
theorem q_290_10 : decode (mB 290) 10 = .ok (.checkcast 311, 3) := by decide +kernel
theorem q_290_13 : decode (mB 290) 13 = .ok (.areturn, 1) := by decide +kernel
theorem q_290_14 : decode (mB 290) 14 = .ok (.iload_n 1, 1) := by decide +kernel
theorem q_290_15 : decode (mB 290) 15 = .ok (.newarray .byte, 2) := by decide +kernel
theorem q_290_17 : decode (mB 290) 17 = .ok (.astore_n 2, 1) := by decide +kernel
theorem q_290_18 : decode (mB 290) 18 = .ok (.aload_n 0, 1) := by decide +kernel
theorem q_290_19 : decode (mB 290) 19 = .ok (.iconst 0, 1) := by decide +kernel
theorem q_290_20 : decode (mB 290) 20 = .ok (.aload_n 2, 1) := by decide +kernel
theorem q_290_21 : decode (mB 290) 21 = .ok (.iconst 0, 1) := by decide +kernel
theorem q_290_22 : decode (mB 290) 22 = .ok (.aload_n 0, 1) := by decide +kernel
theorem q_290_23 : decode (mB 290) 23 = .ok (.arraylength, 1) := by decide +kernel
theorem q_290_24 : decode (mB 290) 24 = .ok (.iload_n 1, 1) := by decide +kernel
theorem q_290_25 : decode (mB 290) 25 = .ok (.invokestatic 304, 3) := by decide +kernel
theorem q_290_28 : decode (mB 290) 28 = .ok (.invokestatic 150, 3) := by decide +kernel
theorem q_290_31 : decode (mB 290) 31 = .ok (.aload_n 2, 1) := by decide +kernel
theorem q_290_32 : decode (mB 290) 32 = .ok (.areturn, 1) := by decide +kernel
theorem q_291_0 : decode (mB 291) 0 = .ok (.iload_n 1, 1) := by decide +kernel
theorem q_291_1 : decode (mB 291) 1 = .ok (.ifCond .ne 9, 3) := by decide +kernel
theorem q_291_4 : decode (mB 291) 4 = .ok (.iload_n 2, 1) := by decide +kernel
theorem q_291_5 : decode (mB 291) 5 = .ok (.aload_n 0, 1) := by decide +kernel
theorem q_291_6 : decode (mB 291) 6 = .ok (.arraylength, 1) := by decide +kernel
theorem q_291_7 : decode (mB 291) 7 = .ok (.if_icmp .eq 10, 3) := by decide +kernel
theorem q_291_10 : decode (mB 291) 10 = .ok (.aload_n 0, 1) := by decide +kernel
theorem q_291_11 : decode (mB 291) 11 = .ok (.iload_n 1, 1) := by decide +kernel
theorem q_291_12 : decode (mB 291) 12 = .ok (.iload_n 2, 1) := by decide +kernel
theorem q_291_13 : decode (mB 291) 13 = .ok (.invokestatic 351, 3) := by decide +kernel
theorem q_291_16 : decode (mB 291) 16 = .ok (.areturn, 1) := by decide +kernel
theorem q_291_17 : decode (mB 291) 17 = .ok (.aload_n 0, 1) := by decide +kernel
theorem q_291_18 : decode (mB 291) 18 = .ok (.invokevirtual 316, 3) := by decide +kernel
theorem q_291_21 : decode (mB 291) 21 = .ok (.checkcast 317, 3) := by decide +kernel
theorem q_291_24 : decode (mB 291) 24 = .ok (.areturn, 1) := by decide +kernel
theorem q_292_0 : decode (mB 292) 0 = .ok (.iload_n 1, 1) := by decide +kernel
theorem q_292_1 : decode (mB 292) 1 = .ok (.iload_n 2, 1) := by decide +kernel
theorem q_292_2 : decode (mB 292) 2 = .ok (.invokestatic 343, 3) := by decide +kernel
theorem q_292_5 : decode (mB 292) 5 = .ok (.iload_n 2, 1) := by decide +kernel
theorem q_292_6 : decode (mB 292) 6 = .ok (.iload_n 1, 1) := by decide +kernel
theorem q_292_7 : decode (mB 292) 7 = .ok (.isub, 1) := by decide +kernel
theorem q_292_8 : decode (mB 292) 8 = .ok (.istore_n 3, 1) := by decide +kernel
theorem q_292_9 : decode (mB 292) 9 = .ok (.iload_n 3, 1) := by decide +kernel
theorem q_292_10 : decode (mB 292) 10 = .ok (.newarray .int, 2) := by decide +kernel
theorem q_292_12 : decode (mB 292) 12 = .ok (.astore 4, 2) := by decide +kernel
theorem q_292_14 : decode (mB 292) 14 = .ok (.aload_n 0, 1) := by decide +kernel
theorem q_292_15 : decode (mB 292) 15 = .ok (.iload_n 1, 1) := by decide +kernel
theorem q_292_16 : decode (mB 292) 16 = .ok (.aload 4, 2) := by decide +kernel
theorem q_292_18 : decode (mB 292) 18 = .ok (.iconst 0, 1) := by decide +kernel
theorem q_292_19 : decode (mB 292) 19 = .ok (.aload_n 0, 1) := by decide +kernel
theorem q_292_20 : decode (mB 292) 20 = .ok (.arraylength, 1) := by decide +kernel
theorem q_292_21 : decode (mB 292) 21 = .ok (.iload_n 1, 1) := by decide +kernel
theorem q_292_22 : decode (mB 292) 22 = .ok (.isub, 1) := by decide +kernel
theorem q_292_23 : decode (mB 292) 23 = .ok (.iload_n 3, 1) := by decide +kernel
theorem q_292_24 : decode (mB 292) 24 = .ok (.invokestatic 304, 3) := by decide +kernel
theorem q_292_27 : decode (mB 292) 27 = .ok (.invokestatic 150, 3) := by decide +kernel
theorem q_292_30 : decode (mB 292) 30 = .ok (.aload 4, 2) := by decide +kernel
theorem q_292_32 : decode (mB 292) 32 = .ok (.areturn, 1) := by decide +kernel
theorem q_288_0 : decode (mB 288) 0 = .ok (.aload_n 0, 1) := by decide +kernel
theorem q_288_1 : decode (mB 288) 1 = .ok (.iload_n 1, 1) := by decide +kernel
theorem q_288_2 : decode (mB 288) 2 = .ok (.aload_n 0, 1) := by decide +kernel
theorem q_288_3 : decode (mB 288) 3 = .ok (.invokevirtual 86, 3) := by decide +kernel
theorem q_288_6 : decode (mB 288) 6 = .ok (.invokestatic 300, 3) := by decide +kernel
theorem q_288_9 : decode (mB 288) 9 = .ok (.areturn, 1) := by decide +kernel
theorem q_289_0 : decode (mB 289) 0 = .ok (.aload_n 2, 1) := by decide +kernel
theorem q_289_1 : decode (mB 289) 1 = .ok (.ldc 110, 2) := by decide +kernel
theorem q_289_3 : decode (mB 289) 3 = .ok (.if_acmp .ne 10, 3) := by decide +kernel
theorem q_289_6 : decode (mB 289) 6 = .ok (.iload_n 1, 1) := by decide +kernel
theorem q_289_7 : decode (mB 289) 7 = .ok (.anewarray 2, 3) := by decide +kernel
theorem q_289_10 : decode (mB 289) 10 = .ok (.goto 14, 3) := by decide +kernel
theorem q_289_24 : decode (mB 289) 24 = .ok (.astore_n 3, 1) := by decide +kernel
theorem q_289_25 : decode (mB 289) 25 = .ok (.aload_n 0, 1) := by decide +kernel
theorem q_289_26 : decode (mB 289) 26 = .ok (.iconst 0, 1) := by decide +kernel
theorem q_289_27 : decode (mB 289) 27 = .ok (.aload_n 3, 1) := by decide +kernel
theorem q_289_28 : decode (mB 289) 28 = .ok (.iconst 0, 1) := by decide +kernel
theorem q_289_29 : decode (mB 289) 29 = .ok (.aload_n 0, 1) := by decide +kernel
theorem q_289_30 : decode (mB 289) 30 = .ok (.arraylength, 1) := by decide +kernel
theorem q_289_31 : decode (mB 289) 31 = .ok (.iload_n 1, 1) := by decide +kernel
theorem q_289_32 : decode (mB 289) 32 = .ok (.invokestatic 304, 3) := by decide +kernel
theorem q_289_35 : decode (mB 289) 35 = .ok (.invokestatic 150, 3) := by decide +kernel
theorem q_289_38 : decode (mB 289) 38 = .ok (.aload_n 3, 1) := by decide +kernel
theorem q_289_39 : decode (mB 289) 39 = .ok (.areturn, 1) := by decide +kernel
theorem q_293_0 : decode (mB 293) 0 = .ok (.iload_n 1, 1) := by decide +kernel
theorem q_293_1 : decode (mB 293) 1 = .ok (.iload_n 0, 1) := by decide +kernel
theorem q_293_2 : decode (mB 293) 2 = .ok (.if_icmp .ge 35, 3) := by decide +kernel
theorem q_293_37 : decode (mB 293) 37 = .ok (.return_, 1) := by decide +kernel
theorem mL_290 : mL 290 = 3 := by decide +kernel
theorem mL_291 : mL 291 = 3 := by decide +kernel
theorem mL_292 : mL 292 = 5 := by decide +kernel
theorem mL_293 : mL 293 = 2 := by decide +kernel
theorem mL_288 : mL 288 = 2 := by decide +kernel
theorem mL_289 : mL 289 = 4 := by decide +kernel
theorem o_290 : cn (mO 290) = "java/util/Arrays" := by decide +kernel
theorem o_291 : cn (mO 291) = "java/util/Arrays" := by decide +kernel
theorem o_292 : cn (mO 292) = "java/util/Arrays" := by decide +kernel
theorem o_288 : cn (mO 288) = "java/util/Arrays" := by decide +kernel
theorem o_289 : cn (mO 289) = "java/util/Arrays" := by decide +kernel
theorem min_nn {x : Int32} {N : Nat} (hx : ¬ x < 0) (hN : N ≤ 100000) : (if x < nI N then x else nI N).toNatClampNeg = min N x.toNatClampNeg ∧ ¬ (if x < nI N then x else nI N) < 0 := by
  have hc := ni_clamp (a := N) (by omega)
  have h0 := ni_nn (a := N) (by omega)
  have hl := nn_lt hx h0
  rw [hc] at hl
  by_cases z : x < nI N
  · rw [if_pos z]
    have := hl.mp z
    exact ⟨by omega, hx⟩
  · rw [if_neg z, hc]
    have : ¬ x.toNatClampNeg < N := fun y => z (hl.mpr y)
    exact ⟨by omega, h0⟩
/-- the heap with the copy -/
def cpH (h : pheap) (a t n : Nat) (sp m : Nat) (d : Value) : pheap := hnew h t n (cpyF (h.2.2 a).2.2 sp m d)
theorem ag_cp {h : pheap} {a t n sp m : Nat} {d : Value} (ha : a < h.1) : Ag (wC (hnew h t n (fun _ => d)) h.1 (cpG ((hnew h t n (fun _ => d)).2.2 a).2.2 ((hnew h t n (fun _ => d)).2.2 h.1).2.2 sp m)) (cpH h a t n sp m d) := by
  refine ⟨rfl, rfl, fun b hb => ?_⟩
  have hb : b < h.1 + 1 := hb
  unfold cpH
  by_cases hbh : b = h.1
  · subst hbh
    rw [wC_s, hn_s, hn_s, hn_o _ _ _ (by omega)]
    exact ⟨rfl, rfl, fun j _ => rfl⟩
  · rw [wC_o hbh, hn_o _ _ _ hbh, hn_o _ _ _ hbh]
    exact ⟨rfl, rfl, fun _ _ => rfl⟩
theorem ag_cl {h : pheap} {a t : Nat} {d : Value} (ht : 14 ≤ t) : Ag (hnew h t (h.2.2 a).2.1 (h.2.2 a).2.2) (cpH h a t (h.2.2 a).2.1 0 (h.2.2 a).2.1 d) := by
  refine ⟨rfl, rfl, fun b hb => ?_⟩
  have hb : b < h.1 + 1 := hb
  unfold cpH
  by_cases hbh : b = h.1
  · subst hbh
    rw [hn_s, hn_s]
    refine ⟨rfl, rfl, fun j hj => ?_⟩
    have hj : j < (h.2.2 a).2.1 := by
      rcases hj with z | z
      · exact absurd (show t < 14 from z) (by omega)
      · exact z
    show (if j < (h.2.2 a).2.1 then (h.2.2 a).2.2 (0 + j) else d) = _
    rw [if_pos hj, Nat.zero_add]
  · rw [hn_o _ _ _ hbh, hn_o _ _ _ hbh]
    exact ⟨rfl, rfl, fun _ _ => rfl⟩
section
variable {p : Program} {l : Launch} {e : Env} {R : Room} {s : State} {m : MethodId} {args : Array Value} {below : List Frame} {meth : Method} {c : Code} {Q : State → Prop}
variable {C : cx} {k b1 b2 pc : Nat} {h h' : pheap} {ls st : List Value}
theorem run_290 (hC : CX C) (F : FCx C p s m args meth c 290) {a : Nat} {x : Int32} (h5 : 5 ≤ a) (ha : a < h.1) (ht : (h.2.2 a).1 = 22) (hN : (h.2.2 a).2.1 ≤ 100000) (hx : ¬ x < 0) (hx2 : x.toNatClampNeg ≤ 100000) (hb1 : b1 ≤ h.1) (hb2 : b2 ≤ h.2.1) (hR1 : 1 ≤ R.frames) (hR2 : 60 ≤ R.locals) (hr1 : h.1 + 1 - b1 ≤ R.cells) (hr2 : h.2.1 + x.toNatClampNeg - b2 ≤ R.slots)
    (fin : ∀ (pc : Nat) (ls : List Value), decode (mB 290) pc = .ok (.areturn, 1) → WW p l e R s m args below meth c Q C b1 b2 (cpH h a 22 x.toNatClampNeg 0 (min (h.2.2 a).2.1 x.toNatClampNeg) (.int 0)) pc ls [.ref h.1]) : WW p l e R s m args below meth c Q C b1 b2 h 0 [.ref a, .int x, mk0] [] := by
  refine w_iload_n F (n := 1) rfl q_290_0 ?_
  refine w_aload_n F (n := 0) rfl q_290_1 ?_
  refine w_alen F ha (by omega) q_290_2 ?_
  refine w_icmp_ne F (by decide) q_290_3 ?_
  by_cases hq : x = nI (h.2.2 a).2.1
  · rw [if_neg (show ¬ cnd .ne x (nI (h.2.2 a).2.1) = true from fun z => (of_decide_eq_true z) hq)]
    have hxN : x.toNatClampNeg = (h.2.2 a).2.1 := by rw [hq, ni_clamp (by omega)]
    refine w_aload_n F (n := 0) rfl q_290_6 ?_
    refine w_clone hC F (t := 22) (an := "[B") (by rw [o_290]; exact bpos (n := 693) (by decide +kernel)) (bpos (n := 694) (by decide +kernel)) (bpos (n := 697) (by decide +kernel)) (bpos (n := 698) (by decide +kernel)) (fun hh => va_nm_byte hh) h5 ha ht (Or.inr rfl) hR1 hR2 (by decide) (by rw [mL_290]; rfl) hb1 hb2 hr1 (by omega) q_290_7 ?_
    have hh1 : 5 ≤ h.1 := by omega
    refine w_castA F (t := 22) (an := "[B") (by rw [o_290]; exact bpos (n := 699) (by decide +kernel)) (fun hh => va_nm_byte hh) hh1 (by show h.1 < h.1 + 1; omega) (by rw [hn_s]) (by decide) q_290_10 ?_
    refine WW.ag ?_ (fin 13 _ q_290_13)
    rw [hxN, Nat.min_self]
    exact ag_cl (by decide)
  · rw [if_pos (show cnd .ne x (nI (h.2.2 a).2.1) = true from decide_eq_true hq), show (tgi (0 + 1 + 1 + 1) 11).toNat = 14 by decide]
    obtain ⟨m1, m2⟩ := min_nn hx hN
    have hh1 : 5 ≤ h.1 := by omega
    refine w_iload_n F (n := 1) rfl q_290_14 ?_
    refine w_newa hC F (t := .byte) hx hx2 (by decide) hb1 hb2 hr1 hr2 q_290_15 ?_
    refine w_astore_n F (n := 2) (ls' := [.ref a, .int x, .ref h.1]) rfl q_290_17 ?_
    refine w_aload_n F (n := 0) rfl q_290_18 ?_
    refine w_iconst F q_290_19 ?_
    refine w_aload_n F (n := 2) rfl q_290_20 ?_
    refine w_iconst F q_290_21 ?_
    refine w_aload_n F (n := 0) rfl q_290_22 ?_
    have ea := hn_o (h := h) 22 x.toNatClampNeg (fun _ => dflA 22) (b := a) (by omega)
    have eb := hn_s (h := h) 22 x.toNatClampNeg (fun _ => dflA 22)
    refine w_alen F (by show a < h.1 + 1; omega) (by show 20 ≤ ((hnew h 22 x.toNatClampNeg (fun _ => dflA 22)).2.2 a).1; rw [ea]; omega) q_290_23 ?_
    refine w_iload_n F (n := 1) rfl q_290_24 ?_
    refine w_mmin F (by decide +kernel) (by rw [mL_290]; rfl) (by simp [catS, Value.category]) hR1 hR2 hr1 hr2 q_290_25 ?_
    show WW p l e R s m args below meth c Q C b1 b2 (hnew h 22 x.toNatClampNeg (fun _ => dflA 22)) 28 [.ref a, .int x, .ref h.1] (.int (if x < nI ((hnew h 22 x.toNatClampNeg (fun _ => dflA 22)).2.2 a).2.1 then x else nI ((hnew h 22 x.toNatClampNeg (fun _ => dflA 22)).2.2 a).2.1) :: .int 0 :: .ref h.1 :: .int 0 :: .ref a :: [])
    have ez : (0 : Int32).toNatClampNeg = 0 := by decide
    refine w_acopy hC F o_290 (t := 22) h5 hh1 (by show a < h.1 + 1; omega) (by show h.1 < h.1 + 1; omega) (by rw [ea]; exact ht) (by rw [eb]) (Or.inr (Or.inl rfl)) (by decide) (by rw [ea]; exact m2) (by rw [ea, m1, ez]; omega) (by rw [ea, m1, eb]; show _ ≤ x.toNatClampNeg; omega) hR1 hR2 (by decide) (by rw [mL_290]; rfl) q_290_28 ?_
    refine w_aload_n F (n := 2) rfl q_290_31 ?_
    refine WW.ag ?_ (fin 32 _ q_290_32)
    rw [ez, ea, m1, ← ea]
    exact ag_cp ha
theorem run_293 (F : FCx C p s m args meth c 293) {x y : Int32} (hxy : x ≤ y) (fin : ∀ (pc : Nat) (ls : List Value), decode (mB 293) pc = .ok (.return_, 1) → WW p l e R s m args below meth c Q C b1 b2 h pc ls []) : WW p l e R s m args below meth c Q C b1 b2 h 0 [.int x, .int y] [] := by
  refine w_iload_n F (n := 1) rfl q_293_0 ?_
  refine w_iload_n F (n := 0) rfl q_293_1 ?_
  refine w_icmp_ge F (by decide) q_293_2 ?_
  rw [if_pos (show cnd .ge y x = true from decide_eq_true hxy), show (tgi (0 + 1 + 1) 35).toNat = 37 by decide]
  exact fin 37 _ q_293_37
theorem met_293 {A0 : Array Value} (hw0 : ∀ w ∈ lw_tbl, w.before A0 C.1 = true) {x y : Int32} (hxy : x ≤ y) : MMf l C 0 293 h h ([Value.int x, .int y].map (rv C)).toArray none := by
  refine met_runW hw0 (by decide +kernel) (by decide +kernel) (by rw [mL_293]; show 2 ≤ 2; decide) fun p e R s m below meth c Q F r1 r2 r3 r4 fin => ?_
  rw [mL_293]
  exact run_293 F hxy (fun pc ls hd => fin pc _ ls hd ⟨rfl, by decide +kernel⟩)
theorem run_292 {A0 : Array Value} (hC : CX C) (hw0 : ∀ w ∈ lw_tbl, w.before A0 C.1 = true) (F : FCx C p s m args meth c 292) {a : Nat} {x y : Int32} (h5 : 5 ≤ a) (ha : a < h.1) (ht : (h.2.2 a).1 = 20) (hN : (h.2.2 a).2.1 ≤ 100000) (hx : ¬ x < 0) (hxy : x ≤ y) (hy : y.toNatClampNeg ≤ (h.2.2 a).2.1) (hb1 : b1 ≤ h.1) (hb2 : b2 ≤ h.2.1) (hR1 : 1 ≤ R.frames) (hR2 : 60 ≤ R.locals) (hr1 : h.1 + 1 - b1 ≤ R.cells) (hr2 : h.2.1 + (y.toNatClampNeg - x.toNatClampNeg) - b2 ≤ R.slots)
    (fin : ∀ (pc : Nat) (ls : List Value), decode (mB 292) pc = .ok (.areturn, 1) → WW p l e R s m args below meth c Q C b1 b2 (cpH h a 20 (y.toNatClampNeg - x.toNatClampNeg) x.toNatClampNeg (y.toNatClampNeg - x.toNatClampNeg) (.int 0)) pc ls [.ref h.1]) : WW p l e R s m args below meth c Q C b1 b2 h 0 [.ref a, .int x, .int y, mk0, mk0] [] := by
  have hy0 : ¬ y < 0 := fun z => hx (Int32.lt_of_le_of_lt hxy z)
  have hXY : x.toNatClampNeg ≤ y.toNatClampNeg := by
    have := Int32.le_iff_toInt_le.mp hxy
    rw [nnI hx, nnI hy0] at this
    omega
  have ex := nn_ni hx (by omega)
  have ey := nn_ni hy0 (by omega)
  have hs : y - x = nI (y.toNatClampNeg - x.toNatClampNeg) := by
    conv => lhs; rw [ex, ey]
    exact ni_sub hXY
  have hl : nI (h.2.2 a).2.1 - x = nI ((h.2.2 a).2.1 - x.toNatClampNeg) := by
    conv => lhs; rw [ex]
    exact ni_sub (by omega)
  have hsc : (y - x).toNatClampNeg = y.toNatClampNeg - x.toNatClampNeg := by rw [hs, ni_clamp (by omega)]
  have hs0 : ¬ (y - x) < 0 := by rw [hs]; exact ni_nn (by omega)
  have hh1 : 5 ≤ h.1 := by omega
  refine w_iload_n F (n := 1) rfl q_292_0 ?_
  refine w_iload_n F (n := 2) rfl q_292_1 ?_
  refine w_callG (as := [.int x, .int y]) (rest := []) F mk_293 (by rw [o_292]; exact bpos (n := 1261) (by decide +kernel)) rfl (met_293 (h := h) hw0 hxy) ⟨Nat.le_refl _, Nat.le_refl _⟩ (by rw [mL_292]; rfl) (by decide) hb1 hb2 hR1 hR2 (by omega) (by omega) q_292_2 ?_
  refine w_iload_n F (n := 2) rfl q_292_5 ?_
  refine w_iload_n F (n := 1) rfl q_292_6 ?_
  refine w_isub F q_292_7 ?_
  refine w_istore_n F (n := 3) (ls' := [.ref a, .int x, .int y, .int (y - x), mk0]) rfl q_292_8 ?_
  refine w_iload_n F (n := 3) rfl q_292_9 ?_
  refine w_newa hC F (t := .int) hs0 (by rw [hsc]; omega) (by decide) hb1 hb2 hr1 (by rw [hsc]; exact hr2) q_292_10 ?_
  rw [hsc]
  refine w_astore F (i := 4) (ls' := [.ref a, .int x, .int y, .int (y - x), .ref h.1]) rfl q_292_12 ?_
  refine w_aload_n F (n := 0) rfl q_292_14 ?_
  refine w_iload_n F (n := 1) rfl q_292_15 ?_
  refine w_aload F (i := 4) rfl q_292_16 ?_
  refine w_iconst F q_292_18 ?_
  refine w_aload_n F (n := 0) rfl q_292_19 ?_
  have ea := hn_o (h := h) 20 (y.toNatClampNeg - x.toNatClampNeg) (fun _ => dflA 20) (b := a) (by omega)
  have eb := hn_s (h := h) 20 (y.toNatClampNeg - x.toNatClampNeg) (fun _ => dflA 20)
  refine w_alen F (by show a < h.1 + 1; omega) (by show 20 ≤ ((hnew h 20 (y.toNatClampNeg - x.toNatClampNeg) (fun _ => dflA 20)).2.2 a).1; rw [ea]; omega) q_292_20 ?_
  refine w_iload_n F (n := 1) rfl q_292_21 ?_
  refine w_isub F q_292_22 ?_
  refine w_iload_n F (n := 3) rfl q_292_23 ?_
  refine w_mmin F (by decide +kernel) (by rw [mL_292]; rfl) (by simp [catS, Value.category]) hR1 hR2 hr1 hr2 q_292_24 ?_
  have hmn : (if y - x < nI ((hnew h 20 (y.toNatClampNeg - x.toNatClampNeg) (fun _ => dflA 20)).2.2 a).2.1 - x then y - x else nI ((hnew h 20 (y.toNatClampNeg - x.toNatClampNeg) (fun _ => dflA 20)).2.2 a).2.1 - x) = y - x := by
    rw [ea, hl]
    by_cases z : y - x < nI ((h.2.2 a).2.1 - x.toNatClampNeg)
    · rw [if_pos z]
    · rw [if_neg z]
      have h2 : ¬ (y - x).toNatClampNeg < (nI ((h.2.2 a).2.1 - x.toNatClampNeg)).toNatClampNeg := fun q => z ((nn_lt hs0 (ni_nn (a := (h.2.2 a).2.1 - x.toNatClampNeg) (by omega))).mpr q)
      rw [hsc, ni_clamp (by omega)] at h2
      rw [hs, show (h.2.2 a).2.1 - x.toNatClampNeg = y.toNatClampNeg - x.toNatClampNeg by omega]
  show WW p l e R s m args below meth c Q C b1 b2 (hnew h 20 (y.toNatClampNeg - x.toNatClampNeg) (fun _ => dflA 20)) 27 [.ref a, .int x, .int y, .int (y - x), .ref h.1] (.int (if y - x < nI ((hnew h 20 (y.toNatClampNeg - x.toNatClampNeg) (fun _ => dflA 20)).2.2 a).2.1 - x then y - x else nI ((hnew h 20 (y.toNatClampNeg - x.toNatClampNeg) (fun _ => dflA 20)).2.2 a).2.1 - x) :: .int 0 :: .ref h.1 :: .int x :: .ref a :: [])
  rw [hmn]
  refine w_acopy hC F o_292 (t := 20) h5 hh1 (by show a < h.1 + 1; omega) (by show h.1 < h.1 + 1; omega) (by rw [ea]; exact ht) (by rw [eb]) (Or.inl rfl) hx hs0 (by rw [ea, hsc]; omega) (by rw [eb, hsc]; exact Nat.le_refl _) hR1 hR2 (by decide) (by rw [mL_292]; rfl) q_292_27 ?_
  refine w_aload F (i := 4) rfl q_292_30 ?_
  refine WW.ag ?_ (fin 32 _ q_292_32)
  rw [hsc]
  exact ag_cp ha
theorem met_292 {A0 : Array Value} (hC : CX C) (hw0 : ∀ w ∈ lw_tbl, w.before A0 C.1 = true) {a : Nat} {x y : Int32} (h5 : 5 ≤ a) (ha : a < h.1) (ht : (h.2.2 a).1 = 20) (hN : (h.2.2 a).2.1 ≤ 100000) (hx : ¬ x < 0) (hxy : x ≤ y) (hy : y.toNatClampNeg ≤ (h.2.2 a).2.1) : MMf l C 1 292 h (cpH h a 20 (y.toNatClampNeg - x.toNatClampNeg) x.toNatClampNeg (y.toNatClampNeg - x.toNatClampNeg) (.int 0)) ([Value.ref a, .int x, .int y].map (rv C)).toArray (some (.ref h.1)) := by
  refine met_runW hw0 (by decide +kernel) (by decide +kernel) (by rw [mL_292]; show 3 ≤ 5; decide) fun p e R s m below meth c Q F r1 r2 r3 r4 fin => ?_
  rw [mL_292]
  exact run_292 hC hw0 F h5 ha ht hN hx hxy hy (Nat.le_refl _) (Nat.le_refl _) (by omega) (by omega) (by rw [r3]; exact Nat.le_refl _) (by rw [r4]; exact Nat.le_refl _) (fun pc ls hd => fin pc _ ls hd ⟨Or.inr ⟨_, rfl⟩, by decide +kernel⟩)
theorem run_291 {A0 : Array Value} (hC : CX C) (hw0 : ∀ w ∈ lw_tbl, w.before A0 C.1 = true) (F : FCx C p s m args meth c 291) {a : Nat} {x y : Int32} (h5 : 5 ≤ a) (ha : a < h.1) (ht : (h.2.2 a).1 = 20) (hN : (h.2.2 a).2.1 ≤ 100000) (hx : ¬ x < 0) (hxy : x ≤ y) (hy : y.toNatClampNeg ≤ (h.2.2 a).2.1) (hb1 : b1 ≤ h.1) (hb2 : b2 ≤ h.2.1) (hR1 : 2 ≤ R.frames) (hR2 : 120 ≤ R.locals) (hr1 : h.1 + 1 - b1 ≤ R.cells) (hr2 : h.2.1 + (y.toNatClampNeg - x.toNatClampNeg) - b2 ≤ R.slots)
    (fin : ∀ (pc : Nat) (ls : List Value), decode (mB 291) pc = .ok (.areturn, 1) → WW p l e R s m args below meth c Q C b1 b2 (cpH h a 20 (y.toNatClampNeg - x.toNatClampNeg) x.toNatClampNeg (y.toNatClampNeg - x.toNatClampNeg) (.int 0)) pc ls [.ref h.1]) : WW p l e R s m args below meth c Q C b1 b2 h 0 [.ref a, .int x, .int y] [] := by
  have hh1 : 5 ≤ h.1 := by omega
  have hy0 : ¬ y < 0 := fun z => hx (Int32.lt_of_le_of_lt hxy z)
  have go : WW p l e R s m args below meth c Q C b1 b2 h 10 [.ref a, .int x, .int y] [] := by
    refine w_aload_n F (n := 0) rfl q_291_10 ?_
    refine w_iload_n F (n := 1) rfl q_291_11 ?_
    refine w_iload_n F (n := 2) rfl q_291_12 ?_
    refine w_callG (as := [.ref a, .int x, .int y]) (rest := []) F mk_292 (by rw [o_291]; exact bpos (n := 1258) (by decide +kernel)) rfl (met_292 hC hw0 h5 ha ht hN hx hxy hy) ⟨Nat.le_succ _, Nat.le_add_right _ _⟩ (by rw [mL_291]; rfl) (by decide) hb1 hb2 hR1 hR2 hr1 hr2 q_291_13 ?_
    exact fin 16 _ q_291_16
  refine w_iload_n F (n := 1) rfl q_291_0 ?_
  refine w_if_ne F (by decide) q_291_1 ?_
  by_cases hz : x = 0
  · rw [if_neg (show ¬ cnd .ne x 0 = true from fun z => (of_decide_eq_true z) hz)]
    refine w_iload_n F (n := 2) rfl q_291_4 ?_
    refine w_aload_n F (n := 0) rfl q_291_5 ?_
    refine w_alen F ha (by omega) q_291_6 ?_
    refine w_icmp_eq F (by decide) q_291_7 ?_
    by_cases hq : y = nI (h.2.2 a).2.1
    · rw [if_pos (show cnd .eq y (nI (h.2.2 a).2.1) = true from decide_eq_true hq), show (tgi (0 + 1 + 3 + 1 + 1 + 1) 10).toNat = 17 by decide]
      have hyN : y.toNatClampNeg = (h.2.2 a).2.1 := by rw [hq, ni_clamp (by omega)]
      have hx0 : x.toNatClampNeg = 0 := by rw [hz]; decide
      refine w_aload_n F (n := 0) rfl q_291_17 ?_
      refine w_clone hC F (t := 20) (an := "[I") (by rw [o_291]; exact bpos (n := 1264) (by decide +kernel)) (bpos (n := 1265) (by decide +kernel)) (bpos (n := 1266) (by decide +kernel)) (bpos (n := 1267) (by decide +kernel)) (fun hh => va_nm_int hh) h5 ha ht (Or.inl rfl) (by omega) (by omega) (by decide) (by rw [mL_291]; rfl) hb1 hb2 hr1 (by omega) q_291_18 ?_
      refine w_castA F (t := 20) (an := "[I") (by rw [o_291]; exact bpos (n := 1268) (by decide +kernel)) (fun hh => va_nm_int hh) hh1 (by show h.1 < h.1 + 1; omega) (by rw [hn_s]) (by decide) q_291_21 ?_
      refine WW.ag ?_ (fin 24 _ q_291_24)
      rw [hyN, hx0, Nat.sub_zero]
      exact ag_cl (by decide)
    · rw [if_neg (show ¬ cnd .eq y (nI (h.2.2 a).2.1) = true from fun z => hq (of_decide_eq_true z))]
      exact go
  · rw [if_pos (show cnd .ne x 0 = true from decide_eq_true hz), show (tgi (0 + 1) 9).toNat = 10 by decide]
    exact go
theorem met_291 {A0 : Array Value} (hC : CX C) (hw0 : ∀ w ∈ lw_tbl, w.before A0 C.1 = true) {a : Nat} {x y : Int32} (h5 : 5 ≤ a) (ha : a < h.1) (ht : (h.2.2 a).1 = 20) (hN : (h.2.2 a).2.1 ≤ 100000) (hx : ¬ x < 0) (hxy : x ≤ y) (hy : y.toNatClampNeg ≤ (h.2.2 a).2.1) : MMf l C 2 291 h (cpH h a 20 (y.toNatClampNeg - x.toNatClampNeg) x.toNatClampNeg (y.toNatClampNeg - x.toNatClampNeg) (.int 0)) ([Value.ref a, .int x, .int y].map (rv C)).toArray (some (.ref h.1)) := by
  refine met_runW hw0 (by decide +kernel) (by decide +kernel) (by rw [mL_291]; show 3 ≤ 3; decide) fun p e R s m below meth c Q F r1 r2 r3 r4 fin => ?_
  rw [mL_291]
  exact run_291 hC hw0 F h5 ha ht hN hx hxy hy (Nat.le_refl _) (Nat.le_refl _) (by omega) (by omega) (by rw [r3]; exact Nat.le_refl _) (by rw [r4]; exact Nat.le_refl _) (fun pc ls hd => fin pc _ ls hd ⟨Or.inr ⟨_, rfl⟩, by decide +kernel⟩)
theorem met_290 {A0 : Array Value} (hC : CX C) (hw0 : ∀ w ∈ lw_tbl, w.before A0 C.1 = true) {a : Nat} {x : Int32} (h5 : 5 ≤ a) (ha : a < h.1) (ht : (h.2.2 a).1 = 22) (hN : (h.2.2 a).2.1 ≤ 100000) (hx : ¬ x < 0) (hx2 : x.toNatClampNeg ≤ 100000) : MMf l C 1 290 h (cpH h a 22 x.toNatClampNeg 0 (min (h.2.2 a).2.1 x.toNatClampNeg) (.int 0)) ([Value.ref a, .int x].map (rv C)).toArray (some (.ref h.1)) := by
  refine met_runW hw0 (by decide +kernel) (by decide +kernel) (by rw [mL_290]; show 2 ≤ 3; decide) fun p e R s m below meth c Q F r1 r2 r3 r4 fin => ?_
  rw [mL_290]
  exact run_290 hC F h5 ha ht hN hx hx2 (Nat.le_refl _) (Nat.le_refl _) (by omega) (by omega) (by rw [r3]; exact Nat.le_refl _) (by rw [r4]; exact Nat.le_refl _) (fun pc ls hd => fin pc _ ls hd ⟨Or.inr ⟨_, rfl⟩, by decide +kernel⟩)
/-- copyOf(Object[], int, Class), with the class of Object[] -/
theorem met_289 {A0 : Array Value} (hC : CX C) (hw0 : ∀ w ∈ lw_tbl, w.before A0 C.1 = true) {a mi : Nat} {x : Int32} (hMi : va_Mi "[Ljava/lang/Object;" mi C.1) (h5 : 5 ≤ a) (ha : a < h.1) (ht : (h.2.2 a).1 = 24) (hN : (h.2.2 a).2.1 ≤ 100000) (hx : ¬ x < 0) (hx2 : x.toNatClampNeg ≤ 100000) : MMf l C 1 289 h (cpH h a 24 x.toNatClampNeg 0 (min (h.2.2 a).2.1 x.toNatClampNeg) .null) [Value.ref (ad C a), .int x, .ref mi].toArray (some (.ref h.1)) := by
  refine met_run hw0 (by decide +kernel) (by decide +kernel) fun p e R s m below meth c Q F r1 r2 r3 r4 fin H hR => ?_
  have hlv := lv_entry [Value.ref (ad C a), .int x, .ref mi] (n := mL 289) (by rw [mL_289]; show 3 ≤ 4; decide)
  rw [lg_entry_eq]
  generalize (lg_sl [Value.ref (ad C a), .int x, .ref mi] ++ List.replicate (mL 289 - (lg_sl [Value.ref (ad C a), .int x, .ref mi]).length) Slot.unset).toArray = A at hlv ⊢
  obtain ⟨v1, v2, v3⟩ := hlv
  have hown := F.2.2.2.1
  rw [o_289] at hown
  refine lv_aload_n F.1 F.2.1 (k := 2) (i := 2) q_289_0 rfl (v3 (2, .ref mi) (by simp [lv_args, Value.category])) ?_
  refine va_ldcM F.1 F.2.1 hown (F.2.2.2.2.1 _ (bpos (n := 634) (by decide +kernel))) (hMi.moved F.2.2.2.2.2.1) q_289_1 ?_
  show W p l e R s m _ below meth c H [] 0 0 Q (F0 m 3 A (va_rf (some mi) :: va_rf (some mi) :: []))
  refine lv_acmp_ne F.1 F.2.1 (tgt := 13) q_289_3 (by decide) (fun z => absurd rfl z) (fun _ => ?_)
  have hh1 : 5 ≤ h.1 := by omega
  obtain ⟨m1, m2⟩ := min_nn hx hN
  have hr1 : h.1 + 1 - h.1 ≤ R.cells := by rw [r3]; exact Nat.le_refl _
  have hr2 : h.2.1 + x.toNatClampNeg - h.2.1 ≤ R.slots := by rw [r4]; exact Nat.le_refl _
  have hR1 : 1 ≤ R.frames := by omega
  have hR2 : 60 ≤ R.locals := by omega
  have key : WW p l e R s m [Value.ref (ad C a), .int x, .ref mi].toArray below meth c Q C h.1 h.2.1 h 6 [.ref a, .int x, mk0, mk0] [] := by
    refine w_iload_n F (n := 1) rfl q_289_6 ?_
    refine w_anew hC F (t := 24) (by decide +kernel) (by decide) (by decide) hx hx2 (Nat.le_refl _) (Nat.le_refl _) hr1 hr2 q_289_7 ?_
    refine w_goto F (by decide) q_289_10 ?_
    rw [show (tgi (6 + 1 + 3) 14).toNat = 24 by decide]
    refine w_astore_n F (n := 3) (ls' := [.ref a, .int x, mk0, .ref h.1]) rfl q_289_24 ?_
    refine w_aload_n F (n := 0) rfl q_289_25 ?_
    refine w_iconst F q_289_26 ?_
    refine w_aload_n F (n := 3) rfl q_289_27 ?_
    refine w_iconst F q_289_28 ?_
    refine w_aload_n F (n := 0) rfl q_289_29 ?_
    have ea := hn_o (h := h) 24 x.toNatClampNeg (fun _ => Value.null) (b := a) (by omega)
    have eb := hn_s (h := h) 24 x.toNatClampNeg (fun _ => Value.null)
    refine w_alen F (by show a < h.1 + 1; omega) (by show 20 ≤ ((hnew h 24 x.toNatClampNeg (fun _ => Value.null)).2.2 a).1; rw [ea]; omega) q_289_30 ?_
    refine w_iload_n F (n := 1) rfl q_289_31 ?_
    refine w_mmin F (by decide +kernel) (by rw [mL_289]; rfl) (by simp [catS, Value.category]) hR1 hR2 hr1 hr2 q_289_32 ?_
    show WW p l e R s m [Value.ref (ad C a), .int x, .ref mi].toArray below meth c Q C h.1 h.2.1 (hnew h 24 x.toNatClampNeg (fun _ => Value.null)) 35 [.ref a, .int x, mk0, .ref h.1] (.int (if x < nI ((hnew h 24 x.toNatClampNeg (fun _ => Value.null)).2.2 a).2.1 then x else nI ((hnew h 24 x.toNatClampNeg (fun _ => Value.null)).2.2 a).2.1) :: .int 0 :: .ref h.1 :: .int 0 :: .ref a :: [])
    have ez : (0 : Int32).toNatClampNeg = 0 := by decide
    refine w_acopy hC F o_289 (t := 24) h5 hh1 (by show a < h.1 + 1; omega) (by show h.1 < h.1 + 1; omega) (by rw [ea]; exact ht) (by rw [eb]) (Or.inr (Or.inr rfl)) (by decide) (by rw [ea]; exact m2) (by rw [ea, m1, ez]; omega) (by rw [ea, m1, eb]; show _ ≤ x.toNatClampNeg; omega) hR1 hR2 (by decide) (by rw [mL_289]; rfl) q_289_35 ?_
    refine w_aload_n F (n := 3) rfl q_289_38 ?_
    refine WW.ag ?_ (fin 39 _ _ q_289_39 ⟨Or.inr ⟨_, rfl⟩, by decide +kernel⟩)
    rw [ez, ea, m1, ← ea]
    exact ag_cp ha
  have key2 := key H A [] hR ⟨by rw [v1, mL_289]; rfl, v2, fun q hq => ?_⟩ (fun q hq => by cases hq)
  · rw [Nat.sub_self, Nat.sub_self] at key2
    exact key2
  · refine v3 q ?_
    obtain ⟨j, v, g1, g2, g3, g4⟩ := lpr_mem.mp hq
    obtain ⟨q1, q2⟩ := q
    dsimp only at g2 g4
    subst g2 g4
    match j, g1 with
    | 0, g1 => cases g1; simp [lv_args, Value.category, rv]
    | 1, g1 => cases g1; simp [lv_args, Value.category, rv]
    | 2, g1 => cases g1; exact absurd rfl g3
    | 3, g1 => cases g1; exact absurd rfl g3
    | j + 4, g1 => cases g1
theorem met_288 {A0 : Array Value} (hC : CX C) (hw0 : ∀ w ∈ lw_tbl, w.before A0 C.1 = true) {a mi : Nat} {x : Int32} (hMi : va_Mi "[Ljava/lang/Object;" mi C.1) (h5 : 5 ≤ a) (ha : a < h.1) (ht : (h.2.2 a).1 = 24) (hN : (h.2.2 a).2.1 ≤ 100000) (hx : ¬ x < 0) (hx2 : x.toNatClampNeg ≤ 100000) : MMf l C 2 288 h (cpH h a 24 x.toNatClampNeg 0 (min (h.2.2 a).2.1 x.toNatClampNeg) .null) ([Value.ref a, .int x].map (rv C)).toArray (some (.ref h.1)) := by
  refine met_runW hw0 (by decide +kernel) (by decide +kernel) (by rw [mL_288]; show 2 ≤ 2; decide) fun p e R s m below meth c Q F r1 r2 r3 r4 fin => ?_
  rw [mL_288]
  show WW p l e R s m ([Value.ref a, .int x].map (rv C)).toArray below meth c Q C h.1 h.2.1 h 0 [.ref a, .int x] []
  have hown := F.2.2.2.1
  rw [o_288] at hown
  refine w_aload_n F (n := 0) rfl q_288_0 ?_
  refine w_iload_n F (n := 1) rfl q_288_1 ?_
  refine w_aload_n F (n := 0) rfl q_288_2 ?_
  intro H A locs hR hl hc
  obtain ⟨cell, e1, e2, e3, e4, e5, e6, e7, e8⟩ := cR_arr (hR.2.2.2 a ha) (by omega)
  have e8 := e8 h5
  rw [ht] at e8
  have hnm : s.vm.findClass "[Ljava/lang/Object;" = some cell.cls := va_nmO (C := "java/lang/Object") (e8.2.1.moved F.2.2.2.2.2.1) (by decide +kernel)
  refine va_getC F.1 F.2.1 (by rw [hl.1, F.2.2.1, mL_288]; rfl) hown (F.2.2.2.2.1 _ (bpos (n := 613) (by decide +kernel))) (F.2.2.2.2.1 _ (bpos (n := 2188) (by decide +kernel))) (F.2.2.2.2.1 _ (bpos (n := 2187) (by decide +kernel))) (F.2.2.2.2.1 _ (bpos (n := 614) (by decide +kernel))) (F.2.2.2.2.1 _ (bpos (n := 630) (by decide +kernel))) (hMi.moved F.2.2.2.2.2.1) (mi := mi) ⟨cell, e1, by rw [e8.2.2]; rfl, hnm⟩ (by omega) (by simp [Value.category, rv]; omega) q_288_3 ?_
  refine run_G (va := [.ref (ad C a), .int x, .ref mi]) (rest := []) (ls := [.ref a, .int x]) F mk_289 (by rw [o_288]; exact bpos (n := 631) (by decide +kernel)) rfl (met_289 hC hw0 hMi h5 ha ht hN hx hx2) ⟨Nat.le_succ _, Nat.le_add_right _ _⟩ (by rw [mL_288]; rfl) (by decide) (Nat.le_refl _) (Nat.le_refl _) (by omega) (by omega) (by rw [r3]; exact Nat.le_refl _) (by rw [r4]; exact Nat.le_refl _) q_288_6 hR hl hc ?_
  exact fin 9 _ _ q_288_9 ⟨Or.inr ⟨_, rfl⟩, by decide +kernel⟩
end
section
variable {p : Program} {l : Launch} {e : Env} {R : Room} {s : State} {m : MethodId} {args : Array Value} {below : List Frame} {meth : Method} {c : Code} {Q : State → Prop}
variable {C : cx} {k b1 b2 pc : Nat} {h : pheap} {ls st : List Value}
theorem rd_len (hR : ∃ H, Rp C h H) {a : Nat} (h5 : 5 ≤ a) (ha : a < h.1) : (h.2.2 a).2.1 ≤ 100000 := by
  obtain ⟨H, hR⟩ := hR
  exact (hR.1.2 a h5 ha).1
theorem ww_rp (kk : (∃ H, Rp C h H) → WW p l e R s m args below meth c Q C b1 b2 h pc ls st) : WW p l e R s m args below meth c Q C b1 b2 h pc ls st := fun H A locs hR hl hc => kk ⟨H, hR⟩ H A locs hR hl hc
theorem w_cpB {A0 : Array Value} (hC : CX C) (hw0 : ∀ w ∈ lw_tbl, w.before A0 C.1 = true) (F : FCx C p s m args meth c k) {i a : Nat} {x : Int32} {r : List Value} (hv : lk2 mtT (mO k) i 99999 = 901) (hls : ls.length = mL k) (hcat : catS r ≤ 8) (hR1 : 5 ≤ R.frames) (hR2 : 300 ≤ R.locals) (h5 : 5 ≤ a) (ha : a < h.1) (ht : (h.2.2 a).1 = 22) (hx : ¬ x < 0) (hx2 : x.toNatClampNeg ≤ 100000) (hb1 : b1 ≤ h.1) (hb2 : b2 ≤ h.2.1) (hr1 : h.1 + 1 - b1 ≤ R.cells) (hr2 : h.2.1 + x.toNatClampNeg - b2 ≤ R.slots) (hd : decode (mB k) pc = .ok (.invokestatic i, 3))
    (kk : WW p l e R s m args below meth c Q C b1 b2 (hnew h 22 x.toNatClampNeg (cpyF (h.2.2 a).2.2 0 (min (h.2.2 a).2.1 x.toNatClampNeg) (.int 0))) (pc + 3) ls (.ref h.1 :: r)) : WW p l e R s m args below meth c Q C b1 b2 h pc ls (.int x :: .ref a :: r) := by
  have hlink : Cond.methodLink (cn (mO k)) i (mY 290) ∈ lw_use := by
    rcases mt_ok hv (by decide) with z | z
    · exact z
    · exact absurd z.2 (by decide)
  refine ww_rp fun hR => ?_
  exact w_callG (as := [.ref a, .int x]) F mk_290 hlink rfl (met_290 hC hw0 h5 ha ht (rd_len hR h5 ha) hx hx2) ⟨Nat.le_succ _, Nat.le_add_right _ _⟩ hls hcat hb1 hb2 (by omega) (by omega) hr1 hr2 hd kk
theorem w_cpO {A0 : Array Value} (hC : CX C) (hMi : ∃ mi, va_Mi "[Ljava/lang/Object;" mi C.1) (hw0 : ∀ w ∈ lw_tbl, w.before A0 C.1 = true) (F : FCx C p s m args meth c k) {i a : Nat} {x : Int32} {r : List Value} (hv : lk2 mtT (mO k) i 99999 = 902) (hls : ls.length = mL k) (hcat : catS r ≤ 8) (hR1 : 5 ≤ R.frames) (hR2 : 300 ≤ R.locals) (h5 : 5 ≤ a) (ha : a < h.1) (ht : (h.2.2 a).1 = 24) (hx : ¬ x < 0) (hx2 : x.toNatClampNeg ≤ 100000) (hb1 : b1 ≤ h.1) (hb2 : b2 ≤ h.2.1) (hr1 : h.1 + 1 - b1 ≤ R.cells) (hr2 : h.2.1 + x.toNatClampNeg - b2 ≤ R.slots) (hd : decode (mB k) pc = .ok (.invokestatic i, 3))
    (kk : WW p l e R s m args below meth c Q C b1 b2 (hnew h 24 x.toNatClampNeg (cpyF (h.2.2 a).2.2 0 (min (h.2.2 a).2.1 x.toNatClampNeg) .null)) (pc + 3) ls (.ref h.1 :: r)) : WW p l e R s m args below meth c Q C b1 b2 h pc ls (.int x :: .ref a :: r) := by
  have hlink : Cond.methodLink (cn (mO k)) i (mY 288) ∈ lw_use := by
    rcases mt_ok hv (by decide) with z | z
    · exact z
    · exact absurd z.2 (by decide)
  obtain ⟨mi, hMi⟩ := hMi
  refine ww_rp fun hR => ?_
  exact w_callG (as := [.ref a, .int x]) F mk_288 hlink rfl (met_288 hC hw0 hMi h5 ha ht (rd_len hR h5 ha) hx hx2) ⟨Nat.le_succ _, Nat.le_add_right _ _⟩ hls hcat hb1 hb2 (by omega) (by omega) hr1 hr2 hd kk
theorem w_cpR {A0 : Array Value} (hC : CX C) (hw0 : ∀ w ∈ lw_tbl, w.before A0 C.1 = true) (F : FCx C p s m args meth c k) {i a : Nat} {x y : Int32} {r : List Value} (hv : lk2 mtT (mO k) i 99999 = 903) (hls : ls.length = mL k) (hcat : catS r ≤ 8) (hR1 : 5 ≤ R.frames) (hR2 : 300 ≤ R.locals) (h5 : 5 ≤ a) (ha : a < h.1) (ht : (h.2.2 a).1 = 20) (hx : ¬ x < 0) (hxy : x ≤ y) (hy : y.toNatClampNeg ≤ (h.2.2 a).2.1) (hn : (h.2.2 a).2.1 ≤ 100000) (hb1 : b1 ≤ h.1) (hb2 : b2 ≤ h.2.1) (hr1 : h.1 + 1 - b1 ≤ R.cells) (hr2 : h.2.1 + (y.toNatClampNeg - x.toNatClampNeg) - b2 ≤ R.slots) (hd : decode (mB k) pc = .ok (.invokestatic i, 3))
    (kk : WW p l e R s m args below meth c Q C b1 b2 (hnew h 20 (y.toNatClampNeg - x.toNatClampNeg) (cpyF (h.2.2 a).2.2 x.toNatClampNeg (y.toNatClampNeg - x.toNatClampNeg) (.int 0))) (pc + 3) ls (.ref h.1 :: r)) : WW p l e R s m args below meth c Q C b1 b2 h pc ls (.int y :: .int x :: .ref a :: r) := by
  have hlink : Cond.methodLink (cn (mO k)) i (mY 291) ∈ lw_use := by
    rcases mt_ok hv (by decide) with z | z
    · exact z
    · exact absurd z.2 (by decide)
  exact w_callG (as := [.ref a, .int x, .int y]) F mk_291 hlink rfl (met_291 hC hw0 h5 ha ht hn hx hxy hy) ⟨Nat.le_succ _, Nat.le_add_right _ _⟩ hls hcat hb1 hb2 (by omega) (by omega) hr1 hr2 hd kk
end
