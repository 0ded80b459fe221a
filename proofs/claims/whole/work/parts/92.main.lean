def retI (k : Nat) (r : Option Value) (i : Instr) : Prop := match i with
  | .ireturn => ∃ v, r = some (.int v) ∧ retOK (mR k) v = true
  | .lreturn => ∃ v, r = some (.long v) ∧ mR k = some .long
  | .areturn => (r = some .null ∨ ∃ a, r = some (.ref a)) ∧ retRef (mR k) = true
  | .return_ => r = none ∧ mR k = none
  | _ => False
theorem rs_i {o pc : Nat} {raw : Instr} (h : rslv o pc raw = .ireturn) : raw = .ireturn := by cases raw <;> simp [rslv] at h <;> rfl
theorem rs_l {o pc : Nat} {raw : Instr} (h : rslv o pc raw = .lreturn) : raw = .lreturn := by cases raw <;> simp [rslv] at h <;> rfl
theorem rs_a {o pc : Nat} {raw : Instr} (h : rslv o pc raw = .areturn) : raw = .areturn := by cases raw <;> simp [rslv] at h <;> rfl
theorem rs_v {o pc : Nat} {raw : Instr} (h : rslv o pc raw = .return_) : raw = .return_ := by cases raw <;> simp [rslv] at h <;> rfl
theorem rs_is {o pc j : Nat} {raw : Instr} (h : rslv o pc raw = .invokestatic j) : ∃ i, raw = .invokestatic i ∧ lk2 mtT o i 99999 = j := by cases raw <;> simp [rslv] at h <;> exact ⟨_, rfl, h⟩
theorem rs_ii {o pc j : Nat} {raw : Instr} (h : rslv o pc raw = .invokespecial j) : ∃ i, raw = .invokespecial i ∧ lk2 mtT o i 99999 = j := by cases raw <;> simp [rslv] at h <;> exact ⟨_, rfl, h⟩
theorem rs_iv {o pc j : Nat} {raw : Instr} (h : rslv o pc raw = .invokevirtual j) : ∃ i, raw = .invokevirtual i ∧ lk2 mtT o i 99999 = j := by cases raw <;> simp [rslv] at h <;> exact ⟨_, rfl, h⟩
theorem mfT_len : mfT.length = 287 := by decide +kernel
theorem kind_lt {j kd : Nat} (h : mKind j = kd) (hk : kd ≠ 9) : j < 287 := by
  rcases Nat.lt_or_ge j 287 with z | z
  · exact z
  · exfalso
    apply hk
    rw [← h]
    unfold mKind
    rw [List.getD_eq_getElem?_getD, List.getElem?_eq_none (by rw [mfT_len]; exact z)]
    rfl
set_option maxRecDepth 20000 in
theorem k2_14a : (List.range 287).all (fun j => decide (mKind j ≠ 2) || decide (mO j < 14)) = true := by decide +kernel
theorem k2_14 {j : Nat} (h : mKind j = 2) : mO j < 14 := by
  have h1 := List.all_eq_true.mp k2_14a j (List.mem_range.mpr (kind_lt h (by decide)))
  simpa [h] using h1
theorem xarg_0 {j : Nat} {h : pheap} {st as rest : List Value} (hx : xarg j 0 h st = some (as, rest)) : mKind j = 0 ∧ as.length = mPar j ∧ st = as.reverse ++ rest := by
  unfold xarg at hx
  split at hx
  · rename_i hc
    cases hx
    exact ⟨hc.1, by simp [hc.2], by simp⟩
  · cases hx
theorem xarg_1 {j : Nat} {h : pheap} {st as rest : List Value} (hx : xarg j 1 h st = some (as, rest)) : mKind j = 1 ∧ ∃ (b : Nat) (bs : List Value), as = .ref b :: bs ∧ bs.length = mPar j ∧ st = bs.reverse ++ .ref b :: rest := by
  unfold xarg at hx
  split at hx
  · rename_i hc
    have hx2 : (match st.drop (mPar j) with
      | .ref b :: r => some (Value.ref b :: (st.take (mPar j)).reverse, r)
      | _ => none) = some (as, rest) := hx
    split at hx2
    · rename_i b r hd
      cases hx2
      refine ⟨hc.1, b, _, rfl, by simp [hc.2], ?_⟩
      rw [List.reverse_reverse, ← hd, List.take_append_drop]
    · cases hx2
  · cases hx
theorem xarg_2 {j : Nat} {h : pheap} {st as rest : List Value} (hx : xarg j 2 h st = some (as, rest)) : mKind j = 2 ∧ ∃ (b : Nat) (bs : List Value), as = .ref b :: bs ∧ bs.length = mPar j ∧ st = bs.reverse ++ .ref b :: rest ∧ b < h.1 ∧ (h.2.2 b).1 = mO j := by
  unfold xarg at hx
  split at hx
  · rename_i hc
    have hx2 : (match st.drop (mPar j) with
      | .ref b :: r => if b < h.1 ∧ (h.2.2 b).1 = mO j then some (Value.ref b :: (st.take (mPar j)).reverse, r) else none
      | _ => none) = some (as, rest) := hx
    split at hx2
    · rename_i b r hd
      split at hx2
      · rename_i hb
        cases hx2
        refine ⟨hc.1, b, _, rfl, by simp [hc.2], ?_, hb.1, hb.2⟩
        rw [List.reverse_reverse, ← hd, List.take_append_drop]
      · cases hx2
    · cases hx2
  · cases hx
theorem entL_len {n : Nat} {vs : List Value} (h : (lgl vs).length ≤ n) : (entL n vs).length = n := by
  unfold entL
  simp
  omega
def FRM (l : Launch) (C : cx) (n : Nat) : Prop := ∀ (d : Nat) (h : pheap) (k pc : Nat) (ls st : List Value) (r : Option Value) (hE : pheap), xe n d h k pc ls st = some (r, hE) →
  ∀ (p : Program) (e : Env) (R : Room) (s : State) (m : MethodId) (args : Array Value) (below : List Frame) (meth : Method) (c : Code) (Q : State → Prop) (b1 b2 : Nat), FCx C p s m args meth c k → b1 ≤ h.1 → b2 ≤ h.2.1 → ls.length = mL k → d + 4 ≤ R.frames → 60 * (d + 4) ≤ R.locals → hE.1 - b1 ≤ R.cells → hE.2.1 - b2 ≤ R.slots →
  (∀ (pc : Nat) (i : Instr) (ls : List Value), decode (mB k) pc = .ok (i, 1) → retI k r i → WW p l e R s m args below meth c Q C b1 b2 hE pc ls r.toList) → WW p l e R s m args below meth c Q C b1 b2 h pc ls st
theorem met_of {l : Launch} {C : cx} {A0 : Array Value} (hw0 : ∀ w ∈ lw_tbl, w.before A0 C.1 = true) {n : Nat} (ih : FRM l C n) {d j : Nat} {h hE : pheap} {as : List Value} {r : Option Value} (hj : j < 287) (hx : xe n d h j 0 (entL (mL j) as) [] = some (r, hE)) (hlen : (lgl as).length ≤ mL j) : MM l C d j h hE as r := by
  obtain ⟨w1, w2, w3, w4, w5, w6, w7, -⟩ := mOK_spec hj
  refine Met.ofW (cc := mB j) (maxL := mL j) (ret := mR j) w6 rfl ?_
  intro p e s m args below meth c s1 B hml hP
  obtain ⟨rfl, hRp, hW⟩ := hP
  have hts0 := atoms_spec (ws := wsC j) B.pre
  have hts : ∀ w ∈ lw_use, w.before (as.map (rv C)).toArray s = true := by
    intro w hw
    obtain ⟨h1, h2⟩ := List.mem_filter.mp hw
    by_cases hg : goodWord w = true
    · exact hts0 w (List.mem_cons_of_mem _ (List.mem_filter.mpr ⟨h1, hg⟩))
    · refine nk_warm hW ?_ (hw0 w h1)
      unfold useW at h2
      simpa [hg] using h2
  have hown : s.vm.findClass (cn (mO j)) = some m.cls := by rw [← w3]; exact findClass_of_methodNamed B.named
  have hlocks := B.notSynchronized
  have hr := B.returns
  have F : FCx C p s m (as.map (rv C)).toArray meth c j := ⟨B.exec, B.bytes, hml, hown, hts, hW.alike, Or.inr (name_of_methodNamed B.named B.method).1, w3, hW⟩
  have hmono := xe_mono _ _ _ _ _ _ _ _ _ hx
  have key := ih d h j 0 _ _ r hE hx p e (headSpec (wsC j) (rmC d h hE)).room s m (as.map (rv C)).toArray below meth c (MQ below (qcC C r hE) (as.map (rv C)).toArray s (hE.1 - h.1) (hE.2.1 - h.2.1) (frC C)) h.1 h.2.1 F (Nat.le_refl _) (Nat.le_refl _) (entL_len hlen) (Nat.le_refl _) (Nat.le_refl _) (Nat.le_refl _) (Nat.le_refl _) (by
    intro pc i ls hd hri H A locs hR hl hc
    have hq : ∀ t : State, t.heap = H → s.WarmedH t.vm → qcC C r hE (as.map (rv C)).toArray s (.returned (r.map (rv C))) t := fun t ht _ => ⟨rfl, by rw [ht]; exact hR⟩
    unfold retI at hri
    split at hri
    · obtain ⟨v, rfl, hok⟩ := hri
      unfold retOK at hok
      split at hok
      · rename_i hm
        rw [hm] at hr
        exact W.iret B.exec B.bytes hr hq hc hd
      · rename_i hm
        rw [hm] at hr
        refine W.zret B.exec B.bytes hr ?_ hq hc hd
        have hv : v = 0 ∨ v = 1 := by simpa using hok
        rcases hv with rfl | rfl <;> decide
      · cases hok
    · obtain ⟨v, rfl, hok⟩ := hri
      rw [hok] at hr
      exact W.lret B.exec B.bytes hr hq hc hd
    · obtain ⟨hv, hok⟩ := hri
      unfold retRef at hok
      have hrt : ∃ rt, mR j = some rt ∧ ((∃ n, rt = .object n) ∨ ∃ t, rt = .array t) := by
        split at hok
        · rename_i n hm; exact ⟨_, hm, Or.inl ⟨_, rfl⟩⟩
        · rename_i n hm; exact ⟨_, hm, Or.inr ⟨_, rfl⟩⟩
        · cases hok
      obtain ⟨rt, e1, e2⟩ := hrt
      rw [e1] at hr
      rcases hv with rfl | ⟨a, rfl⟩
      · exact W.aret B.exec B.bytes hr e2 (Or.inl rfl) hq hc hd
      · exact W.aret B.exec B.bytes hr e2 (Or.inr ⟨_, rfl⟩) hq hc hd
    · obtain ⟨rfl, hok⟩ := hri
      rw [hok] at hr
      exact W.vret B.exec B.bytes hr hq hc hd
    · exact hri.elim)
  have key2 := key s.heap _ [] hRp (lR_entry hlen) (fun q hq => by cases hq)
  rw [Nat.sub_self, Nat.sub_self] at key2
  rw [lg_entry_eq]
  exact key2
