def rmF (f : Nat) (h hE : pheap) : Room := { frames := f, cells := hE.1 - h.1, slots := hE.2.1 - h.2.1, locals := 60 * f }
def pcV (C : cx) (h : pheap) (va : Array Value) : Array Value → State → Prop := fun v U => v = va ∧ Rp C h U.heap ∧ C.1.WarmedH U.vm
theorem pcV_blind (C : cx) (h : pheap) (va : Array Value) : FrameBlind (pcV C h va) := fun a U g mk q => ⟨q.1, q.2.1, q.2.2⟩
def MMf (l : Launch) (C : cx) (f j : Nat) (h hE : pheap) (va : Array Value) (r : Option Value) : Prop :=
  Met l (mY j) (wsC j) (rmF f h hE) (pcV C h va) (qcC C r hE) (hE.1 - h.1) (hE.2.1 - h.2.1) (frC C)
/-- a method's contract, out of its walk -/
theorem met_run {l : Launch} {C : cx} {A0 : Array Value} (hw0 : ∀ w ∈ lw_tbl, w.before A0 C.1 = true) {f j : Nat} {h hE : pheap} {va : Array Value} {r : Option Value} (w3 : (mY j).cls = cn (mO j)) (w6 : plainName (mY j).cls = true)
    (run : ∀ (p : Program) (e : Env) (R : Room) (s : State) (m : MethodId) (below : List Frame) (meth : Method) (c : Code) (Q : State → Prop), FCx C p s m va meth c j → R.frames = f → R.locals = 60 * f → R.cells = hE.1 - h.1 → R.slots = hE.2.1 - h.2.1 →
      (∀ (pc : Nat) (i : Instr) (ls : List Value), decode (mB j) pc = .ok (i, 1) → retI j r i → WW p l e R s m va below meth c Q C h.1 h.2.1 hE pc ls r.toList) → ∀ (H : Heap), Rp C h H → W p l e R s m va below meth c H [] 0 0 Q (entryFrame m va (mL j))) : MMf l C f j h hE va r := by
  refine Met.ofW (cc := mB j) (maxL := mL j) (ret := mR j) w6 rfl ?_
  intro p e s m args below meth c s1 B hml hP
  obtain ⟨rfl, hRp, hW⟩ := hP
  have hts0 := atoms_spec (ws := wsC j) B.pre
  have hts : ∀ w ∈ lw_use, w.before args s = true := by
    intro w hw
    obtain ⟨h1, h2⟩ := List.mem_filter.mp hw
    by_cases hg : goodWord w = true
    · exact hts0 w (List.mem_cons_of_mem _ (List.mem_filter.mpr ⟨h1, hg⟩))
    · refine nk_warm hW ?_ (hw0 w h1)
      unfold useW at h2
      simpa [hg] using h2
  have hown : s.vm.findClass (cn (mO j)) = some m.cls := by rw [← w3]; exact findClass_of_methodNamed B.named
  have hlocks := B.notSynchronized
  have hr := B.returns
  have F : FCx C p s m args meth c j := ⟨B.exec, B.bytes, hml, hown, hts, hW.alike, Or.inr (name_of_methodNamed B.named B.method).1, w3, hW⟩
  refine run p e (headSpec (wsC j) (rmF f h hE)).room s m below meth c (MQ below (qcC C r hE) args s (hE.1 - h.1) (hE.2.1 - h.2.1) (frC C)) F rfl rfl rfl rfl ?_ s.heap hRp
  intro pc i ls hd hri H A locs hR hl hc
  have hq : ∀ t : State, t.heap = H → s.WarmedH t.vm → qcC C r hE args s (.returned (r.map (rv C))) t := fun t ht _ => ⟨rfl, by rw [ht]; exact hR⟩
  unfold retI at hri
  split at hri
  · obtain ⟨v, rfl, hok⟩ := hri
    unfold retOK at hok
    split at hok
    · rename_i hm
      rw [hm] at hr
      exact W.iret B.exec B.bytes hr hq hc hd
    · rename_i hm
      rw [hm] at hr
      refine W.zret B.exec B.bytes hr ?_ hq hc hd
      have hv : v = 0 ∨ v = 1 := by simpa using hok
      rcases hv with rfl | rfl <;> decide
    · cases hok
  · obtain ⟨v, rfl, hok⟩ := hri
    rw [hok] at hr
    exact W.lret B.exec B.bytes hr hq hc hd
  · obtain ⟨hv, hok⟩ := hri
    unfold retRef at hok
    have hrt : ∃ rt, mR j = some rt ∧ ((∃ n, rt = .object n) ∨ ∃ t, rt = .array t) := by
      split at hok
      · rename_i n hm; exact ⟨_, hm, Or.inl ⟨_, rfl⟩⟩
      · rename_i n hm; exact ⟨_, hm, Or.inr ⟨_, rfl⟩⟩
      · cases hok
    obtain ⟨rt, e1, e2⟩ := hrt
    rw [e1] at hr
    rcases hv with rfl | ⟨a, rfl⟩
    · exact W.aret B.exec B.bytes hr e2 (Or.inl rfl) hq hc hd
    · exact W.aret B.exec B.bytes hr e2 (Or.inr ⟨_, rfl⟩) hq hc hd
  · obtain ⟨rfl, hok⟩ := hri
    rw [hok] at hr
    exact W.vret B.exec B.bytes hr hq hc hd
  · exact hri.elim
theorem met_runW {l : Launch} {C : cx} {A0 : Array Value} (hw0 : ∀ w ∈ lw_tbl, w.before A0 C.1 = true) {f j : Nat} {h hE : pheap} {as : List Value} {r : Option Value} (w3 : (mY j).cls = cn (mO j)) (w6 : plainName (mY j).cls = true) (hlen : (lgl as).length ≤ mL j)
    (run : ∀ (p : Program) (e : Env) (R : Room) (s : State) (m : MethodId) (below : List Frame) (meth : Method) (c : Code) (Q : State → Prop), FCx C p s m (as.map (rv C)).toArray meth c j → R.frames = f → R.locals = 60 * f → R.cells = hE.1 - h.1 → R.slots = hE.2.1 - h.2.1 →
      (∀ (pc : Nat) (i : Instr) (ls : List Value), decode (mB j) pc = .ok (i, 1) → retI j r i → WW p l e R s m (as.map (rv C)).toArray below meth c Q C h.1 h.2.1 hE pc ls r.toList) → WW p l e R s m (as.map (rv C)).toArray below meth c Q C h.1 h.2.1 h 0 (entL (mL j) as) []) : MMf l C f j h hE (as.map (rv C)).toArray r :=
  met_run hw0 w3 w6 fun p e R s m below meth c Q F r1 r2 r3 r4 fin H hR => by
    have key2 := run p e R s m below meth c Q F r1 r2 r3 r4 fin H _ [] hR (lR_entry hlen) (fun q hq => by cases hq)
    rw [Nat.sub_self, Nat.sub_self] at key2
    rw [lg_entry_eq]
    exact key2
theorem good_of {j : Nat} (hcode : Cond.code (mY j) (mB j) (mL j) (mR j) ∈ lw_use) : GoodIn lw_use (wsC j) := by
  intro w hw
  rcases List.mem_cons.mp hw with rfl | hw
  · exact ⟨hcode, Or.inl rfl⟩
  · obtain ⟨h1, h2⟩ := List.mem_filter.mp hw
    exact ⟨use_of h1 (by unfold useW; rw [h2]; rfl), good_of_word h2⟩
/-- what is known of a method of the library that is called -/
def MK (j n : Nat) : Prop := Cond.code (mY j) (mB j) (mL j) (mR j) ∈ lw_use ∧ Cond.initialized (mY j).cls ∈ lw_use ∧ ((mY j).cls ≠ "java/lang/invoke/MethodHandle" ∧ (mY j).cls ≠ "java/lang/invoke/VarHandle") ∧ (parseMethodDescriptor (mY j).desc).map (fun d => d.parameters.length) = some n ∧ mL j ≤ 30 ∧ Cond.static (mY j) ∈ lw_use
section
variable {p : Program} {l : Launch} {e : Env} {R : Room} {s : State} {m : MethodId} {args : Array Value} {below : List Frame} {meth : Method} {c : Code} {Q : State → Prop}
variable {C : cx} {k b1 b2 pc : Nat} {h h' : pheap} {ls st : List Value}
theorem rf_fit {f j : Nat} {h hE : pheap} (hd : f + 1 ≤ R.frames) (hlo : 60 * (f + 1) ≤ R.locals) (hm : mL j ≤ 30) : (rmF f h hE).frames + 1 ≤ R.frames ∧ 8 + (mL j + 11) + (rmF f h hE).locals ≤ R.locals := by
  refine ⟨hd, ?_⟩
  show 8 + (mL j + 11) + 60 * f ≤ R.locals
  omega
theorem run_G (F : FCx C p s m args meth c k) {i j f n : Nat} {va : List Value} {rest : List Value} {r : Option Value} {h' : pheap} {H : Heap} {A : Array Slot} {locs : List Loc} (hK : MK j n) (hlink : Cond.methodLink (cn (mO k)) i (mY j) ∈ lw_use) (has : va.length = n) (hM : MMf l C f j h h' va.toArray r) (hm : h.1 ≤ h'.1 ∧ h.2.1 ≤ h'.2.1) (hls : ls.length = mL k) (hcat : catS rest ≤ 8)
    (hb1 : b1 ≤ h.1) (hb2 : b2 ≤ h.2.1) (hR1 : f + 1 ≤ R.frames) (hR2 : 60 * (f + 1) ≤ R.locals) (hR3 : h'.1 - b1 ≤ R.cells) (hR4 : h'.2.1 - b2 ≤ R.slots) (hd : decode (mB k) pc = .ok (.invokestatic i, 3)) (hR : Rp C h H) (hl : lR C ls A) (hc : ∀ q ∈ locs, C.2.2.2.1 ≤ q.base)
    (kk : WW p l e R s m args below meth c Q C b1 b2 h' (pc + 3) ls (r.toList ++ rest)) : W p l e R s m args below meth c H locs (h.1 - b1) (h.2.1 - b2) Q (F0 m pc A (va.reverse ++ rest.map (rv C))) := by
  obtain ⟨w1, w2, w4, w5, w7, w8⟩ := hK
  refine ww_ret hl hc hb1 hb2 hm ?_ kk
  exact W.runS (As := va) (cfix F) hM ⟨callB_of n F.2.2.2.2.1 (good_of w1) rfl rfl rfl (F.2.2.2.2.1 _ w2) (F.2.2.2.2.1 _ hlink) ⟨w4.1, w4.2, w5⟩ (rf_fit hR1 hR2 w7), F.2.2.2.2.1 _ w8⟩ ⟨pcV_blind C h _, fun U hU hW => ⟨rfl, by rw [hU]; exact hR, State.WarmedH.trans F.2.2.2.2.2.2.2.2 hW⟩⟩ rfl has (by show A.size = _; rw [hl.1]; exact hls) rfl (by show 2 * 0 + _ ≤ 8; rw [rv_catS]; omega) hd ⟨by omega, by omega⟩
theorem w_callG (F : FCx C p s m args meth c k) {i j f n : Nat} {as rest : List Value} {r : Option Value} {h' : pheap} (hK : MK j n) (hlink : Cond.methodLink (cn (mO k)) i (mY j) ∈ lw_use) (has : as.length = n) (hM : MMf l C f j h h' (as.map (rv C)).toArray r) (hm : h.1 ≤ h'.1 ∧ h.2.1 ≤ h'.2.1) (hls : ls.length = mL k) (hcat : catS rest ≤ 8)
    (hb1 : b1 ≤ h.1) (hb2 : b2 ≤ h.2.1) (hR1 : f + 1 ≤ R.frames) (hR2 : 60 * (f + 1) ≤ R.locals) (hR3 : h'.1 - b1 ≤ R.cells) (hR4 : h'.2.1 - b2 ≤ R.slots) (hd : decode (mB k) pc = .ok (.invokestatic i, 3))
    (kk : WW p l e R s m args below meth c Q C b1 b2 h' (pc + 3) ls (r.toList ++ rest)) : WW p l e R s m args below meth c Q C b1 b2 h pc ls (as.reverse ++ rest) := by
  intro H A locs hR hl hc
  rw [List.map_append, List.map_reverse]
  exact run_G F hK hlink (by simpa using has) hM hm hls hcat hb1 hb2 hR1 hR2 hR3 hR4 hd hR hl hc kk
end
theorem mk_290 : MK 290 2 := ⟨bpos (n := 692) (by decide +kernel), wd_arr, ⟨by decide +kernel, by decide +kernel⟩, by decide +kernel, by decide +kernel, bpos (n := 691) (by decide +kernel)⟩
theorem mk_288 : MK 288 2 := ⟨bpos (n := 612) (by decide +kernel), wd_arr, ⟨by decide +kernel, by decide +kernel⟩, by decide +kernel, by decide +kernel, bpos (n := 611) (by decide +kernel)⟩
theorem mk_289 : MK 289 3 := ⟨bpos (n := 633) (by decide +kernel), wd_arr, ⟨by decide +kernel, by decide +kernel⟩, by decide +kernel, by decide +kernel, bpos (n := 632) (by decide +kernel)⟩
theorem mk_291 : MK 291 3 := ⟨bpos (n := 1257) (by decide +kernel), wd_arr, ⟨by decide +kernel, by decide +kernel⟩, by decide +kernel, by decide +kernel, bpos (n := 1256) (by decide +kernel)⟩
theorem mk_292 : MK 292 3 := ⟨bpos (n := 1260) (by decide +kernel), wd_arr, ⟨by decide +kernel, by decide +kernel⟩, by decide +kernel, by decide +kernel, bpos (n := 1259) (by decide +kernel)⟩
theorem mk_293 : MK 293 2 := ⟨bpos (n := 1263) (by decide +kernel), wd_arr, ⟨by decide +kernel, by decide +kernel⟩, by decide +kernel, by decide +kernel, bpos (n := 1262) (by decide +kernel)⟩
