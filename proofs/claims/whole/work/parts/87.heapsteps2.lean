section
variable {p : Program} {l : Launch} {e : Env} {R : Room} {s : State} {m : MethodId} {args : Array Value} {below : List Frame} {meth : Method} {c : Code} {Q : State → Prop}
variable {C : cx} {k b1 b2 pc : Nat} {h : pheap} {ls r : List Value}
theorem vw_some {c : Nat} (h : c < 14) : ∃ q : vw_C, vwCl[c]? = some q := ⟨vwCl[c], List.getElem?_eq_getElem (by simpa using h)⟩
theorem agT_obj {t : Nat} (h : 24 ≤ t) (h2 : t ≤ 26) : agT t = .object (agC t) := by
  rcases (show t = 24 ∨ t = 25 ∨ t = 26 by omega) with rfl | rfl | rfl <;> rfl
theorem aast_core (hC : CX C) (F : FCx C p s m args meth c k) {H : Heap} {A : Array Slot} {locs : List Loc} (hR : Rp C h H) (hl : lR C ls A) (hc : ∀ q ∈ locs, C.2.2.2.1 ≤ q.base) {a v : Nat} {j : Int32} (h5 : 5 ≤ a) (ha : a < h.1) (ht : 24 ≤ (h.2.2 a).1 ∧ (h.2.2 a).1 ≤ 26) (hj : isIx j (h.2.2 a).2.1 = true) {cell cv : Jvm.Cell} (e1 : H[ad C a]? = some cell) (g1 : H[ad C v]? = some cv)
    (hst : ∀ q, cell.vm ≠ .statics q) (hun : cell.vm ≠ .unknown) (hsz : (h.2.2 a).2.1 ≤ cell.slots.size ∧ cell.slots.size.toInt32 = nI (h.2.2 a).2.1) (hcv : cv.vm = .none) {kA kv kcomp : Class} {comp : ClassId} {t : FieldType} (hkA : s.vm.classes[cell.cls]? = some kA) (hkind : kA.kind = .array comp t) (href : t.isReference = true) (hkcomp : s.vm.classes[comp]? = some kcomp) (hkv : s.vm.classes[cv.cls]? = some kv) (has : s.vm.assignable cv.cls comp = true) (hok24 : (h.2.2 a).1 = 24 → aasOK h 24 (.ref v) = true)
    (hd : decode (mB k) pc = .ok (.aastore, 1)) (kk : WW p l e R s m args below meth c Q C b1 b2 (hset h a j.toNatClampNeg (.ref v)) (pc + 1) ls r) : W p l e R s m args below meth c H locs (h.1 - b1) (h.2.1 - b2) Q (F0 m pc A ((Value.ref v :: .int j :: .ref a :: r).map (rv C))) := by
  have hj := of_decide_eq_true hj
  refine W.aast F.1 F.2.1 e1 hst hun hkA hkind href hkcomp ⟨fun z => hj (Or.inl z), by have := hsz.1; omega⟩ g1 (fun q z => by rw [hcv] at z; cases z) hkv has rfl rfl hd fun H' x1 x2 x3 => ?_
  exact kk H' A _ (apx_set hC hR h5 ha (by omega) (by omega) (by rw [agT_obj ht.1 ht.2]; rfl) hok24 e1 x1 x2 x3) hl (loc_app hc h5)
theorem w_aast (hC : CX C) (F : FCx C p s m args meth c k) {a v : Nat} {j : Int32} (h5 : 5 ≤ a) (ha : a < h.1) (hok : aasOK h (h.2.2 a).1 (.ref v) = true) (hj : isIx j (h.2.2 a).2.1 = true) (hd : decode (mB k) pc = .ok (.aastore, 1)) (kk : WW p l e R s m args below meth c Q C b1 b2 (hset h a j.toNatClampNeg (.ref v)) (pc + 1) ls r) : WW p l e R s m args below meth c Q C b1 b2 h pc ls (.ref v :: .int j :: .ref a :: r) := by
  intro H A locs hR hl hc
  have hok24 : (h.2.2 a).1 = 24 → aasOK h 24 (.ref v) = true := fun z => by rw [z] at hok; exact hok
  simp only [aasOK, Bool.and_eq_true, Bool.or_eq_true, decide_eq_true_eq] at hok
  obtain ⟨hv, hok⟩ := hok
  have h24 : 24 ≤ (h.2.2 a).1 ∧ (h.2.2 a).1 ≤ 26 := by omega
  have htv : (h.2.2 v).1 < 14 := by omega
  obtain ⟨cell, e1, e2, e3, e4, e5, e6, -, e8⟩ := cR_arr (hR.2.2.2 a ha) (by omega)
  obtain ⟨cv, g1, g2, g3, -⟩ := cR_obj (hR.2.2.2 v hv) htv
  obtain ⟨q, hq⟩ := vw_some htv
  have hcls := (u_Kn_moved F.2.2.2.2.2.1 (hC.1 _ _ hq)).2
  rw [(vwn_ _ _ hq).2.1] at hcls
  obtain ⟨kC, hkC, -⟩ := hcls.2
  have hRA := (e8 h5).2.1.moved F.2.2.2.2.2.1
  have e3' := State.isArrayOf_alike F.2.2.2.2.2.1 e3
  rcases hok with ⟨t1, t2, t3⟩ | ⟨t1, t2⟩ | ⟨t1, t2⟩
  · rw [t1] at hRA
    obtain ⟨kA, comp, k1, k2, k3, -⟩ := hRA
    obtain ⟨kE, hkE, -⟩ := Vm.findClass_spec k3
    obtain ⟨c0, c1, f1, f2, f3⟩ := Cond.castable_spec (F.2.2.2.2.1 _ (casO _ t2 t3))
    cases hcls.1.symm.trans f1
    cases k3.symm.trans f2
    exact aast_core hC F hR hl hc h5 ha h24 hj e1 g1 e3'.1 e4 e5 g3 k1 k2 rfl hkE (by rw [g2]; exact hkC) (by rw [g2]; exact f3) hok24 hd kk
  · rw [t1] at hRA
    rw [t2] at hcls hkC g2
    obtain ⟨kA, comp, k1, k2, k3, -⟩ := hRA
    have hcomp : comp = C.2.1 9 := Option.some.inj (k3.symm.trans hcls.1)
    subst hcomp
    exact aast_core hC F hR hl hc h5 ha h24 hj e1 g1 e3'.1 e4 e5 g3 k1 k2 rfl hkC (by rw [g2]; exact hkC) (by rw [g2]; exact va_assign hcls) hok24 hd kk
  · rw [t1] at hRA
    rw [t2] at hcls hkC g2
    obtain ⟨kA, comp, k1, k2, k3, -⟩ := hRA
    have hcomp : comp = C.2.1 5 := Option.some.inj (k3.symm.trans hcls.1)
    subst hcomp
    exact aast_core hC F hR hl hc h5 ha h24 hj e1 g1 e3'.1 e4 e5 g3 k1 k2 rfl hkC (by rw [g2]; exact hkC) (by rw [g2]; exact va_assign hcls) hok24 hd kk
theorem w_aastN (hC : CX C) (F : FCx C p s m args meth c k) {a : Nat} {j : Int32} (h5 : 5 ≤ a) (ha : a < h.1) (hok : aasOK h (h.2.2 a).1 .null = true) (hj : isIx j (h.2.2 a).2.1 = true) (hd : decode (mB k) pc = .ok (.aastore, 1)) (kk : WW p l e R s m args below meth c Q C b1 b2 (hset h a j.toNatClampNeg .null) (pc + 1) ls r) : WW p l e R s m args below meth c Q C b1 b2 h pc ls (.null :: .int j :: .ref a :: r) := by
  intro H A locs hR hl hc
  simp only [aasOK, Bool.and_eq_true, decide_eq_true_eq] at hok
  obtain ⟨cell, e1, e2, e3, e4, e5, e6, e7⟩ := cR_arr (hR.2.2.2 a ha) (by omega)
  have hj := of_decide_eq_true hj
  rw [agT_obj hok.1 hok.2] at e3
  refine va_WaastN F.1 F.2.1 e1 (State.isArrayOf_alike F.2.2.2.2.2.1 e3) e4 (fun z => hj (z.imp id (fun y => Nat.le_trans e5.1 y))) rfl rfl hd fun H' x1 x2 x3 => ?_
  exact kk H' A _ (apx_set hC hR h5 ha (by omega) (by omega) (by rw [agT_obj hok.1 hok.2]; rfl) (fun _ => rfl) e1 x1 x2 x3) hl (loc_app hc h5)
theorem w_gets (hC : CX C) (F : FCx C p s m args meth c k) {i v : Nat} (hv : lk2 stT (mO k) i 99999 = v) (hne : v ≠ 99999) (hd : decode (mB k) pc = .ok (.getstatic i, 3)) (kk : WW p l e R s m args below meth c Q C b1 b2 h (pc + 3) ls (.ref v :: r)) : WW p l e R s m args below meth c Q C b1 b2 h pc ls r := by
  intro H A locs hR hl hc
  obtain ⟨⟨h1, h2⟩, hlink⟩ := sg_ok hv hne
  have hZ := ((hC.2.2.2 v h1 h2).kept (H1 := H) (fun a ha hA => hR.2.2.1 a (Nat.not_le.mp hA))).moved F.2.2.2.2.2.1
  obtain ⟨cf, kf, fi, f, a, cell, z1, z2, z3, z4, z5, z6, z7, z8⟩ := hZ
  have hk := kk H A locs hR hl hc
  have hrw : rv C (.ref v) = .ref (C.2.2.2.2 v) := by show Value.ref (ad C v) = _; rw [ad_old h2]
  rw [List.map_cons, hrw] at hk
  rcases hlink with hlink | ⟨hst, hlink⟩
  · exact W.gets F.1 F.2.1 F.2.2.2.1 (F.2.2.2.2.1 _ hlink) z1 z2 z3 z4 z5 (fun e => by rw [e] at z6; cases z6) z7 rfl hd hk
  · exact va_WgetsN F.1 F.2.1 F.2.2.2.1 (F.2.2.2.2.1 _ hlink) z1 z2 z3 z4 z5 (fun e => by rw [e] at z6; cases z6) z7 rfl hd hk
theorem w_cast (hC : CX C) (F : FCx C p s m args meth c k) {i v a : Nat} (hv : lk2 nwT (mO k) i 99999 = v) (ha : a < h.1) (ht : (h.2.2 a).1 = v) (hs : v = 3 ∨ v = 4 ∨ v = 5 ∨ v = 7 ∨ v = 8 ∨ v = 9) (hd : decode (mB k) pc = .ok (.checkcast i, 3)) (kk : WW p l e R s m args below meth c Q C b1 b2 h (pc + 3) ls (.ref a :: r)) : WW p l e R s m args below meth c Q C b1 b2 h pc ls (.ref a :: r) := by
  intro H A locs hR hl hc
  obtain ⟨hlink, h14⟩ := nw_ok hv (by omega)
  obtain ⟨cell, e1, e2, e3, -⟩ := cR_obj (hR.2.2.2 a ha) (by omega)
  obtain ⟨q, hq⟩ := vw_some h14
  have hcls := (u_Kn_moved F.2.2.2.2.2.1 (hC.1 _ _ hq)).2
  rw [(vwn_ _ _ hq).2.1] at hcls
  exact va_castY F.1 F.2.1 F.2.2.2.1 (F.2.2.2.2.1 _ hlink) (va_Nw.of rfl (F.2.2.2.2.1 _ (casS _ hs))) ⟨cell, e1, by rw [e3]; rfl, by rw [e2, ht]; exact hcls.1⟩ hd (kk H A locs hR hl hc)
theorem w_castN (F : FCx C p s m args meth c k) {i : Nat} (hd : decode (mB k) pc = .ok (.checkcast i, 3)) (kk : WW p l e R s m args below meth c Q C b1 b2 h (pc + 3) ls (.null :: r)) : WW p l e R s m args below meth c Q C b1 b2 h pc ls (.null :: r) :=
  fun H A locs hR hl hc => lv_castN F.1 F.2.1 hd (kk H A locs hR hl hc)
theorem dflF_ty {C : cx} {ty : FieldType} (h : kdT ty ≤ 3) : defaultValue ty = rv C (dflF (kdT ty)) := by
  cases ty <;> first | rfl | (simp [kdT] at h)
theorem fkd_le : ∀ c, c < 14 → ∀ k, k < clN c → fkd (1000 * c + k) ≤ 3 := by decide +kernel
theorem clN_le : ∀ c, c < 14 → clN c ≤ 100000 := by decide +kernel
theorem w_new (hC : CX C) (F : FCx C p s m args meth c k) {i v : Nat} (hv : lk2 nwT (mO k) i 99999 = v) (h14 : v < 14) (hb1 : b1 ≤ h.1) (hb2 : b2 ≤ h.2.1) (hr1 : h.1 + 1 - b1 ≤ R.cells) (hr2 : h.2.1 + clN v - b2 ≤ R.slots) (hd : decode (mB k) pc = .ok (.new i, 3)) (kk : WW p l e R s m args below meth c Q C b1 b2 (hnew h v (clN v) (fun k => dflF (fkd (1000 * v + k)))) (pc + 3) ls (.ref h.1 :: r)) : WW p l e R s m args below meth c Q C b1 b2 h pc ls r := by
  intro H A locs hR hl hc
  obtain ⟨hlink, -⟩ := nw_ok hv (by omega)
  obtain ⟨q, hq⟩ := vw_some h14
  have hKn := u_Kn_moved F.2.2.2.2.2.1 (hC.1 _ _ hq)
  have hN := (vwn_ _ _ hq).1
  have hnm := (vwn_ _ _ hq).2.1
  obtain ⟨ty, hty⟩ := vw_ty _ _ hq
  have hfc := hKn.2.1
  rw [hnm] at hfc
  refine W.newcK F.1 F.2.1 F.2.2.2.1 (F.2.2.2.2.1 _ hlink) (F.2.2.2.2.1 _ (insC v h14)) (F.2.2.2.2.1 _ (iniC v h14)) rfl hd (by omega) (by omega) hfc rfl fun H' kC hkC x1 x2 x3 => ?_
  obtain ⟨cell, y1, y2, y3, y4⟩ := u_born ty F.2.2.2.2.1 (vw_in _ _ hq) hKn hkC x1 hty
  have hk := kk H' A locs (hR.push hC y1 x2 x3 ⟨cell, rfl, Or.inl ⟨h14, y2, y3, fun j hj => ?_⟩⟩ (clN_le v h14) (fun z => by omega)) hl hc
  · have e1 : h.1 + 1 - b1 = h.1 - b1 + 1 := by omega
    have e2 : h.2.1 + clN v - b2 = h.2.1 - b2 + clN v := by omega
    have hk : W p l e R s m args below meth c H' locs (h.1 + 1 - b1) (h.2.1 + clN v - b2) Q (F0 m (pc + 3) A (Value.ref (ad C h.1) :: r.map (rv C))) := hk
    rw [e1, e2, hR.top] at hk
    exact hk
  · have hj : j < clN v := hj
    rw [hN] at hj
    rw [y4 j hj]
    have hkd := fk_ok hq hj (hty j hj)
    have hle := fkd_le v h14 j (by rw [hN]; exact hj)
    show some (defaultValue (ty j)) = some (rv C (dflF (fkd (1000 * v + j))))
    rw [← hkd] at hle ⊢
    rw [dflF_ty (C := C) hle]
theorem ra_of {s : State} {cA : ClassId} {ty : FieldType} (hno : ∀ C, ty ≠ .object C) (h : s.vm.findClass ("[" ++ ty.toString) = some cA) : va_RA s cA ty := by
  cases ty <;> first | exact h | exact absurd rfl (hno _)
theorem w_newa (hC : CX C) (F : FCx C p s m args meth c k) {t : ArrayType} {x : Int32} (hx : ¬ x < 0) (hx2 : x.toNatClampNeg ≤ 100000) (ht : atTag t < 24) (hb1 : b1 ≤ h.1) (hb2 : b2 ≤ h.2.1) (hr1 : h.1 + 1 - b1 ≤ R.cells) (hr2 : h.2.1 + x.toNatClampNeg - b2 ≤ R.slots) (hd : decode (mB k) pc = .ok (.newarray t, 2)) (kk : WW p l e R s m args below meth c Q C b1 b2 (hnew h (atTag t) x.toNatClampNeg (fun _ => dflA (atTag t))) (pc + 2) ls (.ref h.1 :: r)) : WW p l e R s m args below meth c Q C b1 b2 h pc ls (.int x :: r) := by
  intro H A locs hR hl hc
  have hw : Cond.arrayClass (newarray.typeOf t) ∈ lw_use ∧ newarray.typeOf t = agT (atTag t) ∧ 20 ≤ atTag t ∧ componentBytes (newarray.typeOf t) ≤ 8 ∧ defaultValue (newarray.typeOf t) = rv C (dflA (atTag t)) ∧ (∀ C, newarray.typeOf t ≠ .object C) ∧ fits (newarray.typeOf t) (defaultValue (newarray.typeOf t)) = true := by
    cases t
    all_goals first | exact ⟨acB, rfl, by decide, by decide, rfl, fun _ z => by cases z, rfl⟩ | exact ⟨acI, rfl, by decide, by decide, rfl, fun _ z => by cases z, rfl⟩ | exact ⟨acJ, rfl, by decide, by decide, rfl, (fun _ z => by cases z), rfl⟩ | exact ⟨acB, rfl, by decide, by decide, rfl, (fun _ z => by cases z), rfl⟩ | exact ⟨acI, rfl, by decide, by decide, rfl, (fun _ z => by cases z), rfl⟩ | exact ⟨acZ, rfl, by decide, by decide, rfl, (fun _ z => by cases z), rfl⟩ | (simp [atTag] at ht)
  obtain ⟨w1, w2, w3, w4, w5, w6, w7⟩ := hw
  refine W.newa F.1 F.2.1 (F.2.2.2.2.1 _ w1) rfl hd rfl hx (Nat.le_trans (Nat.mul_le_mul hx2 w4) (by decide)) (by omega) (by omega) fun cA kA comp y1 y2 y3 => ?_
  have hcell : (H.push { cls := cA, slots := Array.replicate x.toNatClampNeg (defaultValue (newarray.typeOf t)), vm := .none })[H.size]? = some ({ cls := cA, slots := Array.replicate x.toNatClampNeg (defaultValue (newarray.typeOf t)), vm := .none } : Jvm.Cell) := by simp
  have hk := kk _ A locs (hR.push hC hcell (by simp) (fun q hq => by rw [Array.getElem?_push_lt hq, Array.getElem?_eq_getElem hq]) ⟨_, rfl, Or.inr ⟨w3, (by show atTag t ≤ 27; omega), ?_, (fun z => by cases z), ⟨by simp, by simp only [Array.size_replicate]; rfl⟩, (fun j hj => ?_), (fun j hj => ?_), (fun _ => ⟨by simp, ?_, rfl⟩)⟩⟩ hx2 (fun z => by omega)) hl hc
  · have e1 : h.1 + 1 - b1 = h.1 - b1 + 1 := by omega
    have e2 : h.2.1 + x.toNatClampNeg - b2 = h.2.1 - b2 + x.toNatClampNeg := by omega
    have hk : W p l e R s m args below meth c (H.push { cls := cA, slots := Array.replicate x.toNatClampNeg (defaultValue (newarray.typeOf t)), vm := .none }) locs (h.1 + 1 - b1) (h.2.1 + x.toNatClampNeg - b2) Q (F0 m (pc + 2) A (Value.ref (ad C h.1) :: r.map (rv C))) := hk
    rw [e1, e2, hR.top] at hk
    exact hk
  · show C.1.isArrayOf _ (agT (atTag t))
    rw [← w2]
    exact State.isArrayOf_alike F.2.2.2.2.2.1.symm ⟨(fun _ z => by cases z), kA, y2, comp, y3⟩
  · have hj : j < x.toNatClampNeg := hj
    show (Array.replicate x.toNatClampNeg (defaultValue (newarray.typeOf t)))[j]? = some (rv C (dflA (atTag t)))
    rw [← w5]
    simp [hj]
  · show fits (agT (atTag t)) (rv C (dflA (atTag t))) = true
    rw [← w5, ← w2]
    exact w7
  · show va_RA C.1 cA (agT (atTag t))
    rw [← w2]
    exact va_RA.moved (u := s) F.2.2.2.2.2.1.symm (ra_of w6 y1)
theorem w_anew (hC : CX C) (F : FCx C p s m args meth c k) {i t : Nat} {x : Int32} (hv : lk2 anT (mO k) i 99999 = t) (h24 : 24 ≤ t) (h26 : t ≤ 26) (hx : ¬ x < 0) (hx2 : x.toNatClampNeg ≤ 100000) (hb1 : b1 ≤ h.1) (hb2 : b2 ≤ h.2.1) (hr1 : h.1 + 1 - b1 ≤ R.cells) (hr2 : h.2.1 + x.toNatClampNeg - b2 ≤ R.slots) (hd : decode (mB k) pc = .ok (.anewarray i, 3)) (kk : WW p l e R s m args below meth c Q C b1 b2 (hnew h t x.toNatClampNeg (fun _ => .null)) (pc + 3) ls (.ref h.1 :: r)) : WW p l e R s m args below meth c Q C b1 b2 h pc ls (.int x :: r) := by
  intro H A locs hR hl hc
  obtain ⟨hlink, -⟩ := an_ok hv (by omega)
  have hov : Cond.arrayOver (.object (agC t)) ∈ lw_use := by
    rcases (show t = 24 ∨ t = 25 ∨ t = 26 by omega) with rfl | rfl | rfl
    · exact aoO
    · exact aoV
    · exact aoF
  refine W.anew F.1 F.2.1 F.2.2.2.1 (F.2.2.2.2.1 _ hlink) (F.2.2.2.2.1 _ hov) rfl hd rfl hx (by omega) (by omega) (by omega) fun cA kA comp y1 y2 y3 y4 => ?_
  have hcell : (H.push { cls := cA, slots := Array.replicate x.toNatClampNeg .null, vm := .none })[H.size]? = some ({ cls := cA, slots := Array.replicate x.toNatClampNeg .null, vm := .none } : Jvm.Cell) := by simp
  have hk := kk _ A locs (hR.push hC hcell (by simp) (fun q hq => by rw [Array.getElem?_push_lt hq, Array.getElem?_eq_getElem hq]) ⟨_, rfl, Or.inr ⟨(by show 20 ≤ t; omega), (by show t ≤ 27; omega), ?_, (fun z => by cases z), ⟨by simp, by simp only [Array.size_replicate]; rfl⟩, (fun j hj => ?_), (fun j hj => ?_), (fun _ => ⟨by simp, ?_, rfl⟩)⟩⟩ hx2 (fun _ _ _ => rfl)) hl hc
  · have e1 : h.1 + 1 - b1 = h.1 - b1 + 1 := by omega
    have e2 : h.2.1 + x.toNatClampNeg - b2 = h.2.1 - b2 + x.toNatClampNeg := by omega
    have hk : W p l e R s m args below meth c (H.push { cls := cA, slots := Array.replicate x.toNatClampNeg .null, vm := .none }) locs (h.1 + 1 - b1) (h.2.1 + x.toNatClampNeg - b2) Q (F0 m (pc + 3) A (Value.ref (ad C h.1) :: r.map (rv C))) := hk
    rw [e1, e2, hR.top] at hk
    exact hk
  · show C.1.isArrayOf _ (agT t)
    rw [agT_obj h24 h26]
    exact State.isArrayOf_alike F.2.2.2.2.2.1.symm ⟨(fun _ z => by cases z), kA, y2, comp, y3⟩
  · have hj : j < x.toNatClampNeg := hj
    simp [hj, rv]
  · show fits (agT t) (rv C .null) = true
    rw [agT_obj h24 h26]
    rfl
  · show va_RA C.1 cA (agT t)
    rw [agT_obj h24 h26]
    exact va_RA.moved (u := s) F.2.2.2.2.2.1.symm ⟨kA, comp, y2, y3, y4, y1⟩
end
