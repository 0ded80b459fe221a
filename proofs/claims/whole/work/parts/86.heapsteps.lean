section
variable {p : Program} {l : Launch} {e : Env} {R : Room} {s : State} {m : MethodId} {args : Array Value} {below : List Frame} {meth : Method} {c : Code} {Q : State → Prop}
variable {C : cx} {k b1 b2 pc : Nat} {h : pheap} {ls r : List Value}
theorem cR_obj {C : cx} {a : Nat} {q : pcell} {o : Option Jvm.Cell} (h : cR C a q o) (ht : q.1 < 14) : ∃ cell : Jvm.Cell, o = some cell ∧ cell.cls = C.2.1 q.1 ∧ cell.vm = .none ∧ ∀ k, k < clN q.1 → cell.slots[C.2.2.1 q.1 k]? = some (rv C (q.2.2 k)) := by
  obtain ⟨cell, e, h | h⟩ := h
  · exact ⟨cell, e, h.2⟩
  · omega
theorem cR_arr {C : cx} {a : Nat} {q : pcell} {o : Option Jvm.Cell} (h : cR C a q o) (ht : 20 ≤ q.1) : ∃ cell : Jvm.Cell, o = some cell ∧ q.1 ≤ 27 ∧ C.1.isArrayOf cell (agT q.1) ∧ cell.vm ≠ .unknown ∧ (q.2.1 ≤ cell.slots.size ∧ cell.slots.size.toInt32 = nI q.2.1) ∧ (∀ j, j < q.2.1 → cell.slots[j]? = some (rv C (q.2.2 j))) ∧ (∀ j, j < q.2.1 → fits (agT q.1) (rv C (q.2.2 j)) = true) ∧ (5 ≤ a → cell.slots.size = q.2.1 ∧ va_RA C.1 cell.cls (agT q.1) ∧ cell.vm = .none) := by
  obtain ⟨cell, e, h | h⟩ := h
  · omega
  · exact ⟨cell, e, h.2⟩
theorem cR_tag {C : cx} {a : Nat} {q : pcell} {o : Option Jvm.Cell} (h : cR C a q o) : q.1 < 14 ∨ (20 ≤ q.1 ∧ q.1 ≤ 27) := by
  obtain ⟨cell, e, h | h⟩ := h
  · exact Or.inl h.1
  · exact Or.inr ⟨h.1, h.2.1⟩
theorem vw_lt {c : Nat} {q : vw_C} (h : vwCl[c]? = some q) : c < 14 := (vwn_ c q h).2.2
theorem sm_of {args : Array Value} {s : State} (hts : ∀ w ∈ lw_use, w.before args s = true) {ref d n t : String} (h : ref = d ∨ (ref = "java/util/ArrayList" ∧ d = "java/util/AbstractList" ∧ n = "modCount" ∧ t = "I")) : ∀ x, s.fieldFound? d n t = some x → s.fieldFound? ref n t = some x := by
  intro x hx
  rcases h with rfl | ⟨rfl, rfl, rfl, rfl⟩
  · exact hx
  · exact u_same (hts _ sameW) x hx
theorem w_getf (hC : CX C) (F : FCx C p s m args meth c k) {i v a : Nat} (hv : lk2 ftT (mO k) i 99999 = v) (ha : a < h.1) (ht : (h.2.2 a).1 = v / 1000) (hd : decode (mB k) pc = .ok (.getfield i, 3)) (kk : WW p l e R s m args below meth c Q C b1 b2 h (pc + 3) ls ((h.2.2 a).2.2 (v % 1000) :: r)) : WW p l e R s m args below meth c Q C b1 b2 h pc ls (.ref a :: r) := by
  intro H A locs hR hl hc
  have hcell := hR.2.2.2 a ha
  have hne : v ≠ 99999 := by
    rintro rfl
    rcases cR_tag hcell with z | z <;> rw [ht] at z <;> omega
  obtain ⟨q, ref, hq, hk, hlink, hsame⟩ := ft_ok hv hne
  have hv14 := vw_lt hq
  obtain ⟨cell, e1, e2, e3, e4⟩ := cR_obj hcell (by rw [ht]; exact hv14)
  obtain ⟨hS, hfc, kC, hkC, hkind⟩ := u_Kn_moved F.2.2.2.2.2.1 (hC.1 _ _ hq)
  obtain ⟨cf, kf, fi, f, hi, hsl⟩ := hS _ hk
  refine W.getf F.1 F.2.1 F.2.2.2.1 (F.2.2.2.2.1 _ hlink) (sm_of F.2.2.2.2.1 hsame _ hi) (u_facts hfc hkC (u_lays F.2.2.2.2.1 (vw_in _ _ hq) hk) hi).1 e1 (by rw [e3]; exact fun z => by cases z) (v := rv C ((h.2.2 a).2.2 (v % 1000))) ?_ rfl rfl hd (kk H A locs hR hl hc)
  have e5 := e4 (v % 1000) (by rw [ht, (vwn_ _ _ hq).1]; exact hk)
  rw [ht] at e5
  rw [hsl]
  exact e5
theorem apart_of (hC : CX C) (F : FCx C p s m args meth c k) {ci : Nat} {q : vw_C} (hq : vwCl[ci]? = some q) : ∀ x y, x < q.2.2 → y < q.2.2 → x ≠ y → (C.2.2.1 ci) x ≠ (C.2.2.1 ci) y := by
  obtain ⟨ty, hty⟩ := vw_ty _ _ hq
  have hK : va_K (C.2.1, C.2.2.1) vwCl [] s := ⟨fun c' q' h' => u_Kn_moved F.2.2.2.2.2.1 (hC.1 c' q' h'), fun k q h => by simp at h⟩
  exact va_apart (own := "") (D := (C.2.1, C.2.2.1)) (cl := vwCl) (tys := []) F.2.2.2.2.1 (vw_in _ _ hq) ty hty (vw_nm _ _ hq) hK hq
theorem w_putf (hC : CX C) (F : FCx C p s m args meth c k) {i v a : Nat} {w : Value} (hv : lk2 ftT (mO k) i 99999 = v) (h5 : 5 ≤ a) (ha : a < h.1) (ht : (h.2.2 a).1 = v / 1000) (hok : vOK (fkd v) w = true) (hpf : pfc k (.putfield v) = true) (hd : decode (mB k) pc = .ok (.putfield i, 3)) (kk : WW p l e R s m args below meth c Q C b1 b2 (hset h a (v % 1000) w) (pc + 3) ls r) : WW p l e R s m args below meth c Q C b1 b2 h pc ls (w :: .ref a :: r) := by
  intro H A locs hR hl hc
  have hcell := hR.2.2.2 a ha
  have hne : v ≠ 99999 := by
    rintro rfl
    rcases cR_tag hcell with z | z <;> rw [ht] at z <;> omega
  obtain ⟨q, ref, hq, hk, hlink, hsame⟩ := ft_ok hv hne
  have hv14 := vw_lt hq
  obtain ⟨cell, e1, e2, e3, e4⟩ := cR_obj hcell (by rw [ht]; exact hv14)
  obtain ⟨hS, hfc, kC, hkC, hkind⟩ := u_Kn_moved F.2.2.2.2.2.1 (hC.1 _ _ hq)
  obtain ⟨cf, kf, fi, f, hi, hsl⟩ := hS _ hk
  obtain ⟨ty, hty⟩ := vw_ty _ _ hq
  have hap := apart_of hC F hq
  have hkd := fk_ok hq hk (hty _ hk)
  rw [show 1000 * (v / 1000) + v % 1000 = v by omega] at hkd
  rw [← hkd] at hok
  obtain ⟨hn, hfit⟩ := vOK_fit (C := C) hok
  have hst := (u_facts hfc hkC (u_lays F.2.2.2.2.1 (vw_in _ _ hq) hk) hi).1
  rw [ht] at e2 e4
  have hN := (vwn_ _ _ hq).1
  have e5 := e4 (v % 1000) (by rw [hN]; exact hk)
  have hslot : f.slot < cell.slots.size := by rw [hsl]; exact k2_hasslot e5
  have fin : ∀ (H' : Heap), H'[ad C a]? = some (cell.setSlot f.slot (rv C w)) → H'.size = H.size → (∀ q : Nat, q ≠ ad C a → H'[q]? = H[q]?) → Rp C (hset h a (v % 1000) w) H' := by
    intro H' g1 g2 g3
    refine hR.set hC h5 g1 g2 g3 ⟨_, rfl, Or.inl ⟨by show (h.2.2 a).1 < 14; rw [ht]; exact hv14, ?_, ?_, ?_⟩⟩ (fun z => by omega)
    · show cell.cls = C.2.1 (h.2.2 a).1
      rw [ht]; exact e2
    · exact e3
    · intro j hj
      have hj : j < clN (h.2.2 a).1 := hj
      rw [ht, hN] at hj
      show (cell.setSlot f.slot (rv C w)).slots[C.2.2.1 (h.2.2 a).1 j]? = some (rv C (updV (h.2.2 a).2.2 (v % 1000) w j))
      rw [ht, hsl, updV_rv]
      exact t_set (V := fun k => rv C ((h.2.2 a).2.2 k)) (fun k hk => e4 k (by rw [hN]; exact hk)) hap hk (rv C w) j hj
  have hloc : ∀ q ∈ locs ++ [(⟨ad C a, f.slot⟩ : Loc)], C.2.2.2.1 ≤ q.base := by
    intro x hx
    rcases List.mem_append.mp hx with hx | hx
    · exact hc x hx
    · rw [List.mem_singleton.mp hx]
      show C.2.2.2.1 ≤ ad C a
      rw [ad_new h5]; omega
  by_cases hf : (q.2.1 (v % 1000)).2.2.2 = true
  · have hpf2 : (mY k).name = "<init>" ∧ (q.2.1 (v % 1000)).1 = (mY k).cls := by
      dsimp only [pfc] at hpf
      rw [hq] at hpf
      simpa [hf] using hpf
    have hcf : m.cls = cf := by
      have hlay := F.2.2.2.2.1 _ (vw_in _ _ hq _ (u_in_lay hk))
      unfold u_lay at hlay
      rw [if_pos hf] at hlay
      obtain ⟨_, _, c', _, _, _, -, -, hf', -, -, -, hown2, -⟩ := Cond.laysFinal_spec hlay
      have g1 : c' = cf := by have := hi.symm.trans hf'; simp at this; exact this.1.symm
      rw [hpf2.2, F.2.2.2.2.2.2.2.1] at hown2
      rw [← g1]; exact Option.some.inj (F.2.2.2.1.symm.trans hown2)
    refine W.putFinK F.1 F.2.1 F.2.2.2.1 (F.2.2.2.2.1 _ hlink) (sm_of F.2.2.2.2.1 hsame _ hi) hst hcf (by
      rcases F.2.2.2.2.2.2.1 with z | z
      · exact absurd hpf2.1 (by rw [z]; decide +kernel)
      · exact z.trans hpf2.1) (v := rv C w) (by rw [e2]; exact u_fits hfc hkC hkind (u_lays F.2.2.2.2.1 (vw_in _ _ hq) hk) hi (hty _ hk) hn hfit) e1 e3 hslot rfl rfl hd fun H' g1 g2 g3 => ?_
    exact kk H' A _ (fin H' g1 g2 g3) hl hloc
  · have hlay := F.2.2.2.2.1 _ (vw_in _ _ hq _ (u_in_lay hk))
    unfold u_lay at hlay
    rw [if_neg hf] at hlay
    have h6 := u_store hfc hkC hkind hlay hi (hty _ hk) hn hfit
    refine W.putK F.1 F.2.1 (f := f) ⟨F.2.2.2.1, F.2.2.2.2.1 _ hlink, ⟨_, _, _, sm_of F.2.2.2.2.1 hsame _ hi⟩, hst⟩ (v := rv C w) (by rw [e2]; exact h6) e1 e3 hslot rfl rfl hd fun H' g1 g2 g3 => ?_
    exact kk H' A _ (fin H' g1 g2 g3) hl hloc
theorem loc_app {C : cx} {locs : List Loc} (hc : ∀ q ∈ locs, C.2.2.2.1 ≤ q.base) {a i : Nat} (h5 : 5 ≤ a) : ∀ q ∈ locs ++ [(⟨ad C a, i⟩ : Loc)], C.2.2.2.1 ≤ q.base := by
  intro x hx
  rcases List.mem_append.mp hx with hx | hx
  · exact hc x hx
  · rw [List.mem_singleton.mp hx]
    show C.2.2.2.1 ≤ ad C a
    rw [ad_new h5]; omega
theorem set_slots (cell : Jvm.Cell) (i : Nat) (v : Value) : (cell.setSlot i v).slots.size = cell.slots.size := by simp [Jvm.Cell.setSlot]
theorem set_get (cell : Jvm.Cell) {i : Nat} (v : Value) (hi : i < cell.slots.size) (j : Nat) : (cell.setSlot i v).slots[j]? = if j = i then some v else cell.slots[j]? := by
  unfold Jvm.Cell.setSlot
  by_cases hj : j = i
  · subst hj
    simp [hi]
  · simp [hj, Array.getElem?_setIfInBounds_ne (fun z => hj z.symm)]
theorem isArr_set {u : State} {cell : Jvm.Cell} {t : FieldType} {i : Nat} {v : Value} (h : u.isArrayOf cell t) : u.isArrayOf (cell.setSlot i v) t := h
theorem apx_set (hC : CX C) {H H' : Heap} (hR : Rp C h H) {a i : Nat} {v : Value} (h5 : 5 ≤ a) (ha : a < h.1) (ht : 20 ≤ (h.2.2 a).1) (hi : i < (h.2.2 a).2.1) (hfit : fits (agT (h.2.2 a).1) (rv C v) = true) (hv24 : (h.2.2 a).1 = 24 → aasOK h 24 v = true) {cell : Jvm.Cell} (e1 : H[ad C a]? = some cell) (g1 : H'[ad C a]? = some (cell.setSlot i (rv C v))) (g2 : H'.size = H.size) (g3 : ∀ q : Nat, q ≠ ad C a → H'[q]? = H[q]?) : Rp C (hset h a i v) H' := by
  obtain ⟨cell', e1', e2, e3, e4, e5, e6, e7, e8⟩ := cR_arr (hR.2.2.2 a ha) ht
  cases e1.symm.trans e1'
  refine hR.set hC h5 g1 g2 g3 ⟨_, rfl, Or.inr ⟨ht, e2, isArr_set e3, e4, ?_, ?_, ?_, fun h9 => ⟨by rw [set_slots]; exact (e8 h9).1, (e8 h9).2.1, (e8 h9).2.2⟩⟩⟩ hv24
  · rw [set_slots]; exact e5
  · intro j hj
    show (cell.setSlot i (rv C v)).slots[j]? = some (rv C (updV (h.2.2 a).2.2 i v j))
    rw [set_get cell _ (Nat.lt_of_lt_of_le hi e5.1), updV_rv]
    unfold updV
    by_cases hji : j = i
    · rw [if_pos hji, if_pos hji]
    · rw [if_neg hji, if_neg hji]
      exact e6 j hj
  · intro j hj
    show fits (agT (h.2.2 a).1) (rv C (updV (h.2.2 a).2.2 i v j)) = true
    rw [updV_rv]
    unfold updV
    by_cases hji : j = i
    · rw [if_pos hji]; exact hfit
    · rw [if_neg hji]; exact e7 j hj
theorem fit_bool (x : Int32) : fits .boolean (.int (x &&& 1)) = true := by
  have h := pk_and x (m := 1) 1 (by decide)
  rw [h]
  rcases (show x.toBitVec.toNat % 2 ^ 1 = 0 ∨ x.toBitVec.toNat % 2 ^ 1 = 1 by omega) with z | z <;> rw [z] <;> decide
theorem w_iald (F : FCx C p s m args meth c k) {a : Nat} {j : Int32} (ha : a < h.1) (ht : (h.2.2 a).1 = 20) (hj : isIx j (h.2.2 a).2.1 = true) (hd : decode (mB k) pc = .ok (.iaload, 1)) (kk : WW p l e R s m args below meth c Q C b1 b2 h (pc + 1) ls ((h.2.2 a).2.2 j.toNatClampNeg :: r)) : WW p l e R s m args below meth c Q C b1 b2 h pc ls (.int j :: .ref a :: r) := by
  intro H A locs hR hl hc
  obtain ⟨cell, e1, e2, e3, e4, e5, e6, -⟩ := cR_arr (hR.2.2.2 a ha) (by rw [ht]; decide)
  rw [ht] at e3
  have hj := of_decide_eq_true hj
  exact W.iald F.1 F.2.1 e1 (State.isArrayOf_alike F.2.2.2.2.2.1 e3) e4 (fun z => hj (z.imp id (fun y => Nat.le_trans e5.1 y))) (e6 _ (by omega)) rfl rfl hd (kk H A locs hR hl hc)
theorem w_lald (F : FCx C p s m args meth c k) {a : Nat} {j : Int32} (ha : a < h.1) (ht : (h.2.2 a).1 = 21) (hj : isIx j (h.2.2 a).2.1 = true) (hd : decode (mB k) pc = .ok (.laload, 1)) (kk : WW p l e R s m args below meth c Q C b1 b2 h (pc + 1) ls ((h.2.2 a).2.2 j.toNatClampNeg :: r)) : WW p l e R s m args below meth c Q C b1 b2 h pc ls (.int j :: .ref a :: r) := by
  intro H A locs hR hl hc
  obtain ⟨cell, e1, e2, e3, e4, e5, e6, -⟩ := cR_arr (hR.2.2.2 a ha) (by rw [ht]; decide)
  rw [ht] at e3
  have hj := of_decide_eq_true hj
  exact W.lald F.1 F.2.1 e1 (State.isArrayOf_alike F.2.2.2.2.2.1 e3) e4 (fun z => hj (z.imp id (fun y => Nat.le_trans e5.1 y))) (e6 _ (by omega)) rfl rfl hd (kk H A locs hR hl hc)
theorem w_bald (F : FCx C p s m args meth c k) {a : Nat} {j : Int32} (ha : a < h.1) (ht : (h.2.2 a).1 = 22) (hj : isIx j (h.2.2 a).2.1 = true) (hd : decode (mB k) pc = .ok (.baload, 1)) (kk : WW p l e R s m args below meth c Q C b1 b2 h (pc + 1) ls ((h.2.2 a).2.2 j.toNatClampNeg :: r)) : WW p l e R s m args below meth c Q C b1 b2 h pc ls (.int j :: .ref a :: r) := by
  intro H A locs hR hl hc
  obtain ⟨cell, e1, e2, e3, e4, e5, e6, -⟩ := cR_arr (hR.2.2.2 a ha) (by rw [ht]; decide)
  rw [ht] at e3
  have hj := of_decide_eq_true hj
  exact W.bald F.1 F.2.1 e1 (State.isArrayOf_alike F.2.2.2.2.2.1 e3) e4 (fun z => hj (z.imp id (fun y => Nat.le_trans e5.1 y))) (e6 _ (by omega)) rfl rfl hd (kk H A locs hR hl hc)
theorem w_zald (F : FCx C p s m args meth c k) {a : Nat} {j : Int32} (ha : a < h.1) (ht : (h.2.2 a).1 = 23) (hj : isIx j (h.2.2 a).2.1 = true) (hd : decode (mB k) pc = .ok (.baload, 1)) (kk : WW p l e R s m args below meth c Q C b1 b2 h (pc + 1) ls ((h.2.2 a).2.2 j.toNatClampNeg :: r)) : WW p l e R s m args below meth c Q C b1 b2 h pc ls (.int j :: .ref a :: r) := by
  intro H A locs hR hl hc
  obtain ⟨cell, e1, e2, e3, e4, e5, e6, -⟩ := cR_arr (hR.2.2.2 a ha) (by rw [ht]; decide)
  rw [ht] at e3
  have hj := of_decide_eq_true hj
  exact W.zald F.1 F.2.1 e1 (State.isArrayOf_alike F.2.2.2.2.2.1 e3) e4 (fun z => hj (z.imp id (fun y => Nat.le_trans e5.1 y))) (e6 _ (by omega)) rfl rfl hd (kk H A locs hR hl hc)
theorem agT_ref {t : Nat} (h : 24 ≤ t) (h2 : t ≤ 27) : (agT t).isReference = true := by
  rcases (show t = 24 ∨ t = 25 ∨ t = 26 ∨ t = 27 by omega) with rfl | rfl | rfl | rfl <;> rfl
theorem w_aald (F : FCx C p s m args meth c k) {a : Nat} {j : Int32} (ha : a < h.1) (ht : 24 ≤ (h.2.2 a).1) (hj : isIx j (h.2.2 a).2.1 = true) (hd : decode (mB k) pc = .ok (.aaload, 1)) (kk : WW p l e R s m args below meth c Q C b1 b2 h (pc + 1) ls ((h.2.2 a).2.2 j.toNatClampNeg :: r)) : WW p l e R s m args below meth c Q C b1 b2 h pc ls (.int j :: .ref a :: r) := by
  intro H A locs hR hl hc
  obtain ⟨cell, e1, e2, e3, e4, e5, e6, -⟩ := cR_arr (hR.2.2.2 a ha) (by omega)
  have hj := of_decide_eq_true hj
  exact W.aald F.1 F.2.1 e1 (State.isArrayOf_alike F.2.2.2.2.2.1 e3) (agT_ref ht e2) e4 (fun z => hj (z.imp id (fun y => Nat.le_trans e5.1 y))) (e6 _ (by omega)) rfl rfl hd (kk H A locs hR hl hc)
theorem w_alen (F : FCx C p s m args meth c k) {a : Nat} (ha : a < h.1) (ht : 20 ≤ (h.2.2 a).1) (hd : decode (mB k) pc = .ok (.arraylength, 1)) (kk : WW p l e R s m args below meth c Q C b1 b2 h (pc + 1) ls (.int (nI (h.2.2 a).2.1) :: r)) : WW p l e R s m args below meth c Q C b1 b2 h pc ls (.ref a :: r) := by
  intro H A locs hR hl hc
  obtain ⟨cell, e1, e2, e3, e4, e5, e6, -⟩ := cR_arr (hR.2.2.2 a ha) ht
  exact W.alen F.1 F.2.1 e1 (State.isArrayOf_alike F.2.2.2.2.2.1 e3) e5.2 rfl rfl hd (kk H A locs hR hl hc)
theorem w_iast (hC : CX C) (F : FCx C p s m args meth c k) {a : Nat} {j : Int32} {x : Int32} (h5 : 5 ≤ a) (ha : a < h.1) (ht : (h.2.2 a).1 = 20) (hj : isIx j (h.2.2 a).2.1 = true) (hd : decode (mB k) pc = .ok (.iastore, 1)) (kk : WW p l e R s m args below meth c Q C b1 b2 (hset h a j.toNatClampNeg (.int x)) (pc + 1) ls r) : WW p l e R s m args below meth c Q C b1 b2 h pc ls (.int x :: .int j :: .ref a :: r) := by
  intro H A locs hR hl hc
  obtain ⟨cell, e1, e2, e3, e4, e5, e6, -⟩ := cR_arr (hR.2.2.2 a ha) (by rw [ht]; decide)
  rw [ht] at e3
  have hj := of_decide_eq_true hj
  refine W.iast F.1 F.2.1 e1 (State.isArrayOf_alike F.2.2.2.2.2.1 e3) e4 (fun z => hj (z.imp id (fun y => Nat.le_trans e5.1 y))) rfl rfl hd fun H' g1 g2 g3 => ?_
  exact kk H' A _ (apx_set hC hR h5 ha (by rw [ht]; decide) (by omega) (by rw [ht]; rfl) (fun z => by omega) e1 g1 g2 g3) hl (loc_app hc h5)
theorem w_last (hC : CX C) (F : FCx C p s m args meth c k) {a : Nat} {j : Int32} {x : Int64} (h5 : 5 ≤ a) (ha : a < h.1) (ht : (h.2.2 a).1 = 21) (hj : isIx j (h.2.2 a).2.1 = true) (hd : decode (mB k) pc = .ok (.lastore, 1)) (kk : WW p l e R s m args below meth c Q C b1 b2 (hset h a j.toNatClampNeg (.long x)) (pc + 1) ls r) : WW p l e R s m args below meth c Q C b1 b2 h pc ls (.long x :: .int j :: .ref a :: r) := by
  intro H A locs hR hl hc
  obtain ⟨cell, e1, e2, e3, e4, e5, e6, -⟩ := cR_arr (hR.2.2.2 a ha) (by rw [ht]; decide)
  rw [ht] at e3
  have hj := of_decide_eq_true hj
  refine W.last F.1 F.2.1 e1 (State.isArrayOf_alike F.2.2.2.2.2.1 e3) e4 (fun z => hj (z.imp id (fun y => Nat.le_trans e5.1 y))) rfl rfl hd fun H' g1 g2 g3 => ?_
  exact kk H' A _ (apx_set hC hR h5 ha (by rw [ht]; decide) (by omega) (by rw [ht]; rfl) (fun z => by omega) e1 g1 g2 g3) hl (loc_app hc h5)
theorem w_bast (hC : CX C) (F : FCx C p s m args meth c k) {a : Nat} {j : Int32} {x : Int32} (h5 : 5 ≤ a) (ha : a < h.1) (ht : (h.2.2 a).1 = 22) (hj : isIx j (h.2.2 a).2.1 = true) (hd : decode (mB k) pc = .ok (.bastore, 1)) (kk : WW p l e R s m args below meth c Q C b1 b2 (hset h a j.toNatClampNeg (.int x.toInt8.toInt32)) (pc + 1) ls r) : WW p l e R s m args below meth c Q C b1 b2 h pc ls (.int x :: .int j :: .ref a :: r) := by
  intro H A locs hR hl hc
  obtain ⟨cell, e1, e2, e3, e4, e5, e6, -⟩ := cR_arr (hR.2.2.2 a ha) (by rw [ht]; decide)
  rw [ht] at e3
  have hj := of_decide_eq_true hj
  refine W.bast F.1 F.2.1 e1 (State.isArrayOf_alike F.2.2.2.2.2.1 e3) e4 (fun z => hj (z.imp id (fun y => Nat.le_trans e5.1 y))) rfl rfl hd fun H' g1 g2 g3 => ?_
  exact kk H' A _ (apx_set hC hR h5 ha (by rw [ht]; decide) (by omega) (by rw [ht]; exact pk_fb _) (fun z => by omega) e1 g1 g2 g3) hl (loc_app hc h5)
theorem w_zast (hC : CX C) (F : FCx C p s m args meth c k) {a : Nat} {j : Int32} {x : Int32} (h5 : 5 ≤ a) (ha : a < h.1) (ht : (h.2.2 a).1 = 23) (hj : isIx j (h.2.2 a).2.1 = true) (hd : decode (mB k) pc = .ok (.bastore, 1)) (kk : WW p l e R s m args below meth c Q C b1 b2 (hset h a j.toNatClampNeg (.int (x &&& 1))) (pc + 1) ls r) : WW p l e R s m args below meth c Q C b1 b2 h pc ls (.int x :: .int j :: .ref a :: r) := by
  intro H A locs hR hl hc
  obtain ⟨cell, e1, e2, e3, e4, e5, e6, -⟩ := cR_arr (hR.2.2.2 a ha) (by rw [ht]; decide)
  rw [ht] at e3
  have hj := of_decide_eq_true hj
  refine W.zast F.1 F.2.1 e1 (State.isArrayOf_alike F.2.2.2.2.2.1 e3) e4 (fun z => hj (z.imp id (fun y => Nat.le_trans e5.1 y))) rfl rfl hd fun H' g1 g2 g3 => ?_
  exact kk H' A _ (apx_set hC hR h5 ha (by rw [ht]; decide) (by omega) (by rw [ht]; exact fit_bool _) (fun z => by omega) e1 g1 g2 g3) hl (loc_app hc h5)
end
