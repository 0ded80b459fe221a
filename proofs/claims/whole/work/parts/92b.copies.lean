/-! the library's copies, walked by hand: Arrays.copyOf(byte[], int), copyOf(Object[], int), copyOfRange(int[], int, int) -/
theorem nnI {z : Int32} (hz : ¬ z < 0) : z.toInt = (z.toNatClampNeg : Int) := by
  have hz0 : (0 : Int) ≤ z.toInt := by
    have := Int32.not_lt.mp hz
    simpa using Int32.le_iff_toInt_le.mp this
  show z.toInt = ((z.toInt.toNat : Nat) : Int)
  omega
theorem nn_lt {x y : Int32} (hx : ¬ x < 0) (hy : ¬ y < 0) : x < y ↔ x.toNatClampNeg < y.toNatClampNeg := by
  rw [Int32.lt_iff_toInt_lt, nnI hx, nnI hy]
  omega
theorem ni_nn {a : Nat} (ha : a < 2147483648) : ¬ nI a < 0 := of_eq_false (ni_lt0 ha)
theorem nn_ni {x : Int32} (hx : ¬ x < 0) (hs : x.toNatClampNeg < 2147483648) : x = nI x.toNatClampNeg := by
  apply Int32.toInt_inj.mp
  rw [ni_int hs, nnI hx]
theorem A24.put {h : pheap} {a : Nat} {G : Nat → Value} (hA : A24 h) (hv : (h.2.2 a).1 = 24 → ∀ j, j < (h.2.2 a).2.1 → aasOK h 24 (G j) = true) : A24 (wC h a G) := by
  refine hA.cells rfl (fun b h5 hb => ?_) (fun b _ => ?_)
  · by_cases hba : b = a
    · subst hba
      rw [wC_s]
      exact ⟨rfl, rfl, hv⟩
    · rw [wC_o hba]
      exact ⟨rfl, rfl, (hA b h5 hb).2⟩
  · by_cases hba : b = a
    · subst hba
      rw [wC_s]
    · rw [wC_o hba]
theorem Rp.put {C : cx} (hC : CX C) {h : pheap} {H H' : Heap} (hR : Rp C h H) {a : Nat} {G : Nat → Value} (h5 : 5 ≤ a) {cell' : Jvm.Cell} (e1 : H'[ad C a]? = some cell') (e2 : H'.size = H.size) (e3 : ∀ q : Nat, q ≠ ad C a → H'[q]? = H[q]?)
    (hc : cR C a ((h.2.2 a).1, (h.2.2 a).2.1, G) (some cell')) (hv : (h.2.2 a).1 = 24 → ∀ j, j < (h.2.2 a).2.1 → aasOK h 24 (G j) = true) : Rp C (wC h a G) H' := by
  refine ⟨⟨hR.1.1, hR.1.2.put hv⟩, e2.trans hR.2.1, fun q hq => ?_, fun b hb => ?_⟩
  · rw [e3 q (by rw [ad_new h5]; omega)]
    exact hR.2.2.1 q hq
  · by_cases hba : b = a
    · subst hba
      rw [wC_s, e1]
      exact hc
    · rw [wC_o hba, e3 _ (ad_ne hC h5 hba)]
      exact hR.2.2.2 b hb
/-- heaps that agree in what is looked at -/
def Ag (h h' : pheap) : Prop := h'.1 = h.1 ∧ h'.2.1 = h.2.1 ∧ ∀ a, a < h.1 → (h'.2.2 a).1 = (h.2.2 a).1 ∧ (h'.2.2 a).2.1 = (h.2.2 a).2.1 ∧ ∀ j, ((h.2.2 a).1 < 14 ∨ j < (h.2.2 a).2.1) → (h'.2.2 a).2.2 j = (h.2.2 a).2.2 j
theorem Ag.rp {C : cx} {h h' : pheap} {H : Heap} (hA : Ag h h') (hR : Rp C h H) : Rp C h' H := by
  obtain ⟨g1, g2, g3⟩ := hA
  refine ⟨⟨by rw [g1]; exact hR.1.1, hR.1.2.cells g1 (fun a h5 ha => ⟨(g3 a ha).1, (g3 a ha).2.1, fun z j hj => ?_⟩) (fun a ha => (g3 a (by have := hR.1.1; omega)).1)⟩, by rw [g1]; exact hR.2.1, hR.2.2.1, fun a ha => ?_⟩
  · rw [(g3 a ha).2.2 j (Or.inr hj)]
    exact (hR.1.2 a h5 ha).2 z j hj
  · rw [g1] at ha
    obtain ⟨c1, c2, c3⟩ := g3 a ha
    obtain ⟨cell, e, hh | hh⟩ := hR.2.2.2 a ha
    · exact ⟨cell, e, Or.inl ⟨by rw [c1]; exact hh.1, by rw [c1]; exact hh.2.1, hh.2.2.1, fun k hk => by rw [c1] at hk ⊢; rw [c3 k (Or.inl hh.1)]; exact hh.2.2.2 k hk⟩⟩
    · obtain ⟨y1, y2, y3, y4, y5, y6, y7, y8⟩ := hh
      refine ⟨cell, e, Or.inr ⟨by rw [c1]; exact y1, by rw [c1]; exact y2, by rw [c1]; exact y3, y4, by rw [c2]; exact y5, fun j hj => ?_, fun j hj => ?_, fun z => by rw [c1, c2]; exact y8 z⟩⟩
      · rw [c2] at hj
        rw [c3 j (Or.inr hj)]
        exact y6 j hj
      · rw [c2] at hj
        rw [c1, c3 j (Or.inr hj)]
        exact y7 j hj
def cpG (f g : Nat → Value) (sp n : Nat) : Nat → Value := fun i => if i < n then f (sp + i) else g i
theorem wd_acL : Cond.methodLink "java/util/Arrays" 150 arraycopyName ∈ lw_use := bpos (n := 638) (by decide +kernel)
theorem wd_acS : Cond.static arraycopyName ∈ lw_use := bpos (n := 639) (by decide +kernel)
theorem wd_acN : Cond.native arraycopyName ∈ lw_use := bpos (n := 640) (by decide +kernel)
theorem wd_sys : Cond.initialized "java/lang/System" ∈ lw_use := bpos (n := 148) (by decide +kernel)
theorem wd_arr : Cond.initialized "java/util/Arrays" ∈ lw_use := bpos (n := 147) (by decide +kernel)
theorem wd_clN : Cond.native ⟨"java/lang/Object", "clone", "()Ljava/lang/Object;"⟩ ∈ lw_use := bpos (n := 695) (by decide +kernel)
theorem wd_clI : Cond.instanceMethod ⟨"java/lang/Object", "clone", "()Ljava/lang/Object;"⟩ ∈ lw_use := bpos (n := 696) (by decide +kernel)
section
variable {p : Program} {l : Launch} {e : Env} {R : Room} {s : State} {m : MethodId} {args : Array Value} {below : List Frame} {meth : Method} {c : Code} {Q : State → Prop}
variable {C : cx} {k b1 b2 pc : Nat} {h h' : pheap} {ls st r : List Value}
theorem WW.ag (hA : Ag h h') (kk : WW p l e R s m args below meth c Q C b1 b2 h' pc ls st) : WW p l e R s m args below meth c Q C b1 b2 h pc ls st := by
  intro H A locs hR hl hc
  have := kk H A locs (hA.rp hR) hl hc
  rw [hA.1, hA.2.1] at this
  exact this
theorem w_acopy (hC : CX C) (F : FCx C p s m args meth c k) (ho : cn (mO k) = "java/util/Arrays") {src dst t : Nat} {sp n : Int32} (hs5 : 5 ≤ src) (hd5 : 5 ≤ dst) (ha1 : src < h.1) (ha2 : dst < h.1) (ht1 : (h.2.2 src).1 = t) (ht2 : (h.2.2 dst).1 = t) (ht : t = 20 ∨ t = 22 ∨ t = 24) (h1 : ¬ sp < 0) (h3 : ¬ n < 0) (h4 : sp.toNatClampNeg + n.toNatClampNeg ≤ (h.2.2 src).2.1) (h6 : n.toNatClampNeg ≤ (h.2.2 dst).2.1) (hR1 : 1 ≤ R.frames) (hR2 : 60 ≤ R.locals) (hcat : catS r ≤ 8) (hls : ls.length = mL k) (hd : decode (mB k) pc = .ok (.invokestatic 150, 3))
    (kk : WW p l e R s m args below meth c Q C b1 b2 (wC h dst (cpG (h.2.2 src).2.2 (h.2.2 dst).2.2 sp.toNatClampNeg n.toNatClampNeg)) (pc + 3) ls r) : WW p l e R s m args below meth c Q C b1 b2 h pc ls (.int n :: .int 0 :: .ref dst :: .int sp :: .ref src :: r) := by
  intro H A locs hR hl hc
  obtain ⟨cs, s1, s2, s3, s4, s5, s6, s7, s8⟩ := cR_arr (hR.2.2.2 src ha1) (by omega)
  obtain ⟨cd, d1, d2, d3, d4, d5, d6, d7, d8⟩ := cR_arr (hR.2.2.2 dst ha2) (by omega)
  have s8 := s8 hs5
  have d8 := d8 hd5
  have is1 := State.isArrayOf_alike F.2.2.2.2.2.1 s3
  have id1 := State.isArrayOf_alike F.2.2.2.2.2.1 d3
  rw [ht1] at is1 s7
  rw [ht2] at id1
  obtain ⟨q1, ks, hks, cm0, hkk0⟩ := is1
  obtain ⟨q2, kd, hkd, cm1, hkk1⟩ := id1
  have hlink := F.2.2.2.2.1 _ wd_acL
  rw [← ho] at hlink
  have hz : (0 : Int32).toNatClampNeg = 0 := by decide
  have hty : ((refKind (agT t) != refKind (agT t)) || (!refKind (agT t) && agT t != agT t)) = false := by
    rcases ht with rfl | rfl | rfl <;> decide
  intro T hT X
  have hgd : ∀ i, i < n.toNatClampNeg → cs.slots.getD (sp.toNatClampNeg + i) .null = rv C ((h.2.2 src).2.2 (sp.toNatClampNeg + i)) := fun i hi => by
    rw [Array.getD_eq_getD_getElem?, s6 _ (by omega)]
    rfl
  have hvals : ∀ vm', s.vm.Alike vm' → ∀ i, i < n.toNatClampNeg → fits (agT t) (cs.slots.getD (sp.toNatClampNeg + i) .null) = true ∧ (T.setVm vm').takes cm1 (cs.slots.getD (sp.toNatClampNeg + i) .null) := fun vm' hal i hi => by
    rw [hgd i hi]
    have hf := s7 (sp.toNatClampNeg + i) (by omega)
    refine ⟨hf, ?_⟩
    cases hv : (h.2.2 src).2.2 (sp.toNatClampNeg + i) with
    | ref b =>
      rw [hv] at hf
      have h24 : t = 24 := by
        rcases ht with rfl | rfl | rfl
        · exact absurd hf (by simp [agT, rv, fits])
        · exact absurd hf (by simp [agT, rv, fits])
        · rfl
      have hok := (hR.1.2 src hs5 ha1).2 (ht1.trans h24) (sp.toNatClampNeg + i) (by omega)
      rw [hv] at hok
      simp only [aasOK, Bool.and_eq_true, Bool.or_eq_true, decide_eq_true_eq] at hok
      obtain ⟨hb, hok⟩ := hok
      have hok : 0 < (h.2.2 b).1 ∧ (h.2.2 b).1 < 14 := by omega
      obtain ⟨cv, g1, g2, g3, -⟩ := cR_obj (hR.2.2.2 b hb) hok.2
      obtain ⟨q, hq⟩ := vw_some hok.2
      have hcls := (u_Kn_moved F.2.2.2.2.2.1 (hC.1 _ _ hq)).2
      rw [(vwn_ _ _ hq).2.1] at hcls
      obtain ⟨kC, hkC, -⟩ := hcls.2
      have hRA := d8.2.1.moved F.2.2.2.2.2.1
      rw [ht2, h24] at hRA
      obtain ⟨kA, comp, k1, k2, k3, -⟩ := hRA
      cases hkd.symm.trans k1
      have hkk1' := hkk1
      rw [h24] at hkk1'
      cases hkk1'.symm.trans k2
      obtain ⟨kE, hkE, -⟩ := Vm.findClass_spec k3
      obtain ⟨c0, c1, f1, f2, f3⟩ := Cond.castable_spec (F.2.2.2.2.1 _ (casO _ hok.1 hok.2))
      cases hcls.1.symm.trans f1
      cases k3.symm.trans f2
      obtain ⟨kC', hkC', -⟩ := hal.2.2 _ _ hkC
      obtain ⟨kE', hkE', -⟩ := hal.2.2 _ _ hkE
      refine ⟨cv, (show T.heap[ad C b]? = some cv by rw [hT]; exact g1), (fun q z => by rw [g3] at z; cases z), ⟨kC', by rw [g2]; exact hkC'⟩, ⟨kE', hkE'⟩, ?_⟩
      show vm'.assignable _ _ = true
      rw [hal.assignable, g2]
      exact f3
    | _ => exact trivial
  obtain ⟨vm', X', step⟩ := X.arraycopy F.1 F.2.2.2.1 hlink (F.2.2.2.2.1 _ wd_acN) (F.2.2.2.2.1 _ wd_acS) (F.2.2.2.2.1 _ wd_sys) (src := ad C src) (dst := ad C dst) (cs := cs) (cd := cd) (srcPos := sp) (destPos := 0) (n := n) (by rw [hT]; exact s1) (by rw [hT]; exact d1) q1 q2 s4 d4 hks hkd hkk0 hkk1 hty h1 (by decide) h3
    (by rw [nnI h1, nnI h3, s8.1]; omega) (by rw [nnI h3, d8.1, show (0 : Int32).toInt = 0 from rfl]; omega) hvals
    (g := F0 m pc A ((Value.int n :: .int 0 :: .ref dst :: .int sp :: .ref src :: r).map (rv C))) rfl (by show A.size = _; rw [hl.1, F.2.2.1]; exact hls) (rest := r.map (rv C)) rfl (by rw [F.2.1]; exact hd) hR1 (by show 2 * 0 + _ + _ ≤ _; rw [rv_catS]; have hw : nativeFrameWords "java/lang/System" "arraycopy" 5 ≤ 20 := (by decide); omega)
  have hlen : (cs.stretch sp.toNatClampNeg n.toNatClampNeg).length = n.toNatClampNeg := by
    unfold Jvm.Cell.stretch
    rw [List.length_map, List.length_range]
  have cf := cd.storeRun_facts (0 : Int32).toNatClampNeg (cs.stretch sp.toNatClampNeg n.toNatClampNeg)
  have cg := fun j => cd.storeRun_get (0 : Int32).toNatClampNeg (cs.stretch sp.toNatClampNeg n.toNatClampNeg) j (by rw [hlen, hz, d8.1]; omega)
  have ecell : copied cs cd sp 0 n = cd.storeRun (0 : Int32).toNatClampNeg (cs.stretch sp.toNatClampNeg n.toNatClampNeg) := rfl
  rw [ecell] at X' step
  generalize cd.storeRun (0 : Int32).toNatClampNeg (cs.stretch sp.toNatClampNeg n.toNatClampNeg) = cell' at X' step cf cg
  have hlt : ad C dst < H.size := (Array.getElem?_eq_some_iff.mp d1).1
  have hheap : ((T.setVm vm').setCell (ad C dst) cell').heap = H.setIfInBounds (ad C dst) cell' := by rw [← hT]; rfl
  have g1 : (H.setIfInBounds (ad C dst) cell')[ad C dst]? = some cell' := by simp [hlt]
  have g3 : ∀ q : Nat, q ≠ ad C dst → (H.setIfInBounds (ad C dst) cell')[q]? = H[q]? := fun q hq => by simp [Array.getElem?_setIfInBounds, Ne.symm hq]
  have hcon : ∀ j, j < (h.2.2 dst).2.1 → cell'.slots[j]? = some (rv C (cpG (h.2.2 src).2.2 (h.2.2 dst).2.2 sp.toNatClampNeg n.toNatClampNeg j)) := fun j hj => by
    rw [cg j, hz, hlen]
    unfold cpG
    by_cases hjn : j < n.toNatClampNeg
    · rw [if_pos ⟨Nat.zero_le _, by omega⟩, if_pos hjn, Nat.sub_zero]
      unfold Jvm.Cell.stretch
      rw [List.getElem?_map, List.getElem?_range hjn]
      show some (cs.slots.getD (sp.toNatClampNeg + j) .null) = _
      rw [hgd j hjn]
    · rw [if_neg (by omega), if_neg hjn]
      exact d6 j hj
  have hR' : Rp C (wC h dst (cpG (h.2.2 src).2.2 (h.2.2 dst).2.2 sp.toNatClampNeg n.toNatClampNeg)) (H.setIfInBounds (ad C dst) cell') := by
    refine hR.put hC hd5 g1 (by simp) g3 ⟨cell', rfl, Or.inr ⟨(by show 20 ≤ (h.2.2 dst).1; omega), d2, ?_, (by rw [cf.2.1]; exact d4), (by rw [cf.2.2.1]; exact d5), hcon, fun j hj => ?_, fun _ => ⟨by rw [cf.2.2.1]; exact d8.1, by rw [cf.1]; exact d8.2.1, by rw [cf.2.1]; exact d8.2.2⟩⟩⟩ (fun z j hj => ?_)
    · exact ⟨by rw [cf.2.1]; exact d3.1, by rw [cf.1]; exact d3.2⟩
    · show fits (agT (h.2.2 dst).1) (rv C (cpG (h.2.2 src).2.2 (h.2.2 dst).2.2 sp.toNatClampNeg n.toNatClampNeg j)) = true
      unfold cpG
      by_cases hjn : j < n.toNatClampNeg
      · rw [if_pos hjn, ht2]
        exact s7 _ (by omega)
      · rw [if_neg hjn]
        exact d7 j hj
    · unfold cpG
      by_cases hjn : j < n.toNatClampNeg
      · rw [if_pos hjn]
        exact (hR.1.2 src hs5 ha1).2 (ht1.trans (ht2.symm.trans z)) _ (by omega)
      · rw [if_neg hjn]
        exact (hR.1.2 dst hd5 ha2).2 z j hj
  obtain ⟨t', a1, b1'⟩ := kk _ A (locs ++ (cs.stretch sp.toNatClampNeg n.toNatClampNeg).zipIdx.map fun q => ⟨ad C dst, (0 : Int32).toNatClampNeg + q.2⟩) hR' hl (fun q hq => by
    rcases List.mem_append.mp hq with hq | hq
    · exact hc q hq
    · obtain ⟨z, -, hz'⟩ := List.mem_map.mp hq
      rw [← hz']
      show C.2.2.2.1 ≤ ad C dst
      rw [ad_new hd5]
      omega) _ hheap X'
  exact ⟨t', step t' a1, b1'⟩
theorem w_clone (hC : CX C) (F : FCx C p s m args meth c k) {a t i : Nat} {an : String} (hlink : Cond.methodLink (cn (mO k)) i ⟨an, "clone", "()Ljava/lang/Object;"⟩ ∈ lw_use) (hsame : Cond.sameMethod an "java/lang/Object" "clone" "()Ljava/lang/Object;" ∈ lw_use) (hsel : Cond.selects an ⟨an, "clone", "()Ljava/lang/Object;"⟩ ⟨"java/lang/Object", "clone", "()Ljava/lang/Object;"⟩ ∈ lw_use) (hcas : Cond.castable an "java/lang/Cloneable" ∈ lw_use) (hnm : ∀ {cA : ClassId}, va_RA s cA (agT t) → s.vm.findClass an = some cA)
    (h5 : 5 ≤ a) (ha : a < h.1) (ht : (h.2.2 a).1 = t) (ht2 : t = 20 ∨ t = 22) (hR1 : 1 ≤ R.frames) (hR2 : 60 ≤ R.locals) (hcat : catS r ≤ 8) (hls : ls.length = mL k) (hb1 : b1 ≤ h.1) (hb2 : b2 ≤ h.2.1) (hr1 : h.1 + 1 - b1 ≤ R.cells) (hr2 : h.2.1 + (h.2.2 a).2.1 - b2 ≤ R.slots) (hd : decode (mB k) pc = .ok (.invokevirtual i, 3))
    (kk : WW p l e R s m args below meth c Q C b1 b2 (hnew h t (h.2.2 a).2.1 (h.2.2 a).2.2) (pc + 3) ls (.ref h.1 :: r)) : WW p l e R s m args below meth c Q C b1 b2 h pc ls (.ref a :: r) := by
  intro H A locs hR hl hc
  obtain ⟨cell, e1, e2, e3, e4, e5, e6, e7, e8⟩ := cR_arr (hR.2.2.2 a ha) (by omega)
  have e8 := e8 h5
  rw [ht] at e3 e7 e8
  have hcls := hnm (e8.2.1.moved F.2.2.2.2.2.1)
  obtain ⟨c0, t0, f1, f2, f3⟩ := Cond.castable_spec (F.2.2.2.2.1 _ hcas)
  cases hcls.symm.trans f1
  have is := State.isArrayOf_alike F.2.2.2.2.2.1 e3
  obtain ⟨q1, kS, hkS, compS, hkindS⟩ := is
  intro T hT X
  obtain ⟨-, kA, hkA, comp, hkind⟩ := State.isArrayOf_alike X.warmed.alike (State.isArrayOf_alike F.2.2.2.2.2.1 e3)
  obtain ⟨vm', X', st⟩ := X.cloneArray F.1 F.2.2.2.1 (F.2.2.2.2.1 _ hlink) (F.2.2.2.2.1 _ hsame) (F.2.2.2.2.1 _ wd_clN) (F.2.2.2.2.1 _ wd_clI) (F.2.2.2.2.1 _ hsel) (a := ad C a) (cell := cell) (by rw [hT]; exact e1) q1 e4 hcls f2 f3
    (fun i v hv => by
      have hi : i < (h.2.2 a).2.1 := by rw [← e8.1]; exact (Array.getElem?_eq_some_iff.mp hv).1
      have hv2 := e6 i hi
      rw [hv] at hv2
      cases hv2
      have hk' : T.vm.classes[cell.cls]? = some kA := hkA
      simpa [State.fitsSlot, State.slotType?, hk', hkind] using e7 i hi)
    (g := F0 m pc A ((Value.ref a :: r).map (rv C))) rfl (by show A.size = _; rw [hl.1, F.2.2.1]; exact hls) (rest := r.map (rv C)) rfl (by rw [F.2.1]; exact hd) hR1 (by show 2 * 0 + _ + 14 ≤ _; rw [rv_catS]; omega) (by omega) (by rw [e8.1]; omega) (hloader := Vm.clonesLoader_of_array hkS hkindS)
  have hT2 : T.heap.size = H.size := by rw [hT]
  have hcell : (H.push { cls := cell.cls, slots := cell.slots })[H.size]? = some ({ cls := cell.cls, slots := cell.slots } : Jvm.Cell) := by simp
  have hk := kk (H.push { cls := cell.cls, slots := cell.slots }) A locs (hR.push hC hcell (by simp) (fun q hq => by rw [Array.getElem?_push_lt hq, Array.getElem?_eq_getElem hq]) ⟨_, rfl, Or.inr ⟨(by show 20 ≤ t; omega), (by show t ≤ 27; omega), ⟨(fun _ z => by cases z), e3.2⟩, (fun z => by cases z), e5, e6, e7, (fun _ => ⟨e8.1, e8.2.1, rfl⟩)⟩⟩ (hR.1.2 a h5 ha).1 (fun z => by omega)) hl hc
  have e9 : h.1 + 1 - b1 = h.1 - b1 + 1 := by omega
  have e10 : h.2.1 + (h.2.2 a).2.1 - b2 = h.2.1 - b2 + cell.slots.size := by rw [e8.1]; omega
  have hk : W p l e R s m args below meth c (H.push { cls := cell.cls, slots := cell.slots }) locs (h.1 + 1 - b1) (h.2.1 + (h.2.2 a).2.1 - b2) Q (F0 m (pc + 3) A (Value.ref (ad C h.1) :: r.map (rv C))) := hk
  rw [e9, e10, hR.top] at hk
  obtain ⟨t', a1, b1'⟩ := hk ((T.setVm vm').pushCell { cls := cell.cls, slots := cell.slots }) (by rw [← hT]; rfl) X'
  refine ⟨t', st t' ?_, b1'⟩
  rw [hT2]
  exact a1
theorem w_castA (F : FCx C p s m args meth c k) {a t i : Nat} {an : String} (hlink : Cond.classLink (cn (mO k)) i an ∈ lw_use) (hnm : ∀ {cA : ClassId}, va_RA s cA (agT t) → s.vm.findClass an = some cA) (h5 : 5 ≤ a) (ha : a < h.1) (ht : (h.2.2 a).1 = t) (ht2 : 20 ≤ t) (hd : decode (mB k) pc = .ok (.checkcast i, 3))
    (kk : WW p l e R s m args below meth c Q C b1 b2 h (pc + 3) ls (.ref a :: r)) : WW p l e R s m args below meth c Q C b1 b2 h pc ls (.ref a :: r) := by
  intro H A locs hR hl hc
  obtain ⟨cell, e1, e2, e3, e4, e5, e6, e7, e8⟩ := cR_arr (hR.2.2.2 a ha) (by omega)
  have e8 := e8 h5
  rw [ht] at e8
  have hcls := hnm (e8.2.1.moved F.2.2.2.2.2.1)
  intro T hT X
  obtain ⟨vm', X', st⟩ := X.checkcastYes F.1 F.2.2.2.1 (F.2.2.2.2.1 _ hlink) (a := ad C a) (cell := cell) (by rw [hT]; exact e1) (by rw [e8.2.2]; rfl) hcls (va_asg _ _) (g := F0 m pc A ((Value.ref a :: r).map (rv C))) rfl rfl (by rw [F.2.1]; exact hd)
  obtain ⟨t', a1, b1'⟩ := kk H A locs hR hl hc (T.setVm vm') hT X'
  exact ⟨t', st t' a1, b1'⟩
end
