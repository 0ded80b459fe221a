/-! the pure heap and the machine's: C = the start (its tables, its heap), class numbers, slots, the start heap's size, the addresses of the five old cells -/
abbrev cx : Type := State × (Nat → ClassId) × (Nat → Nat → Nat) × Nat × (Nat → Nat)
def ad (C : cx) (a : Nat) : Nat := if a < 5 then C.2.2.2.2 a else C.2.2.2.1 + (a - 5)
def rv (C : cx) : Value → Value
  | .ref a => .ref (ad C a)
  | v => v
theorem rv_cat (C : cx) (v : Value) : (rv C v).category = v.category := by cases v <;> rfl
def agT (t : Nat) : FieldType := match t with
  | 20 => .int
  | 21 => .long
  | 22 => .byte
  | 23 => .boolean
  | 24 => .object "java/lang/Object"
  | 25 => .object "RemoteDesks$Value"
  | 26 => .object "RemoteDesks$Failure"
  | _ => .array .byte
def cR (C : cx) (a : Nat) (q : pcell) (o : Option Jvm.Cell) : Prop :=
  ∃ cell : Jvm.Cell, o = some cell ∧ ((q.1 < 14 ∧ cell.cls = C.2.1 q.1 ∧ cell.vm = .none ∧ ∀ k, k < clN q.1 → cell.slots[C.2.2.1 q.1 k]? = some (rv C (q.2.2 k))) ∨
    (20 ≤ q.1 ∧ q.1 ≤ 27 ∧ C.1.isArrayOf cell (agT q.1) ∧ cell.vm ≠ .unknown ∧ (q.2.1 ≤ cell.slots.size ∧ cell.slots.size.toInt32 = nI q.2.1) ∧ (∀ j, j < q.2.1 → cell.slots[j]? = some (rv C (q.2.2 j))) ∧ (∀ j, j < q.2.1 → fits (agT q.1) (rv C (q.2.2 j)) = true) ∧ (5 ≤ a → cell.slots.size = q.2.1 ∧ va_RA C.1 cell.cls (agT q.1) ∧ cell.vm = .none)))
/-- rows are short; what an Object[] holds: nothing, or an object of ours -/
def A24 (h : pheap) : Prop := ∀ a, 5 ≤ a → a < h.1 → (h.2.2 a).2.1 ≤ 100000 ∧ ((h.2.2 a).1 = 24 → ∀ j, j < (h.2.2 a).2.1 → aasOK h 24 ((h.2.2 a).2.2 j) = true)
theorem aas_mono {h h' : pheap} {v : Value} (h1 : h.1 ≤ h'.1) (ht : ∀ b, b < h.1 → (h'.2.2 b).1 = (h.2.2 b).1) (hv : aasOK h 24 v = true) : aasOK h' 24 v = true := by
  cases v with
  | null => exact hv
  | ref b =>
    have hb : b < h.1 := by
      simp only [aasOK, Bool.and_eq_true, decide_eq_true_eq] at hv
      exact hv.1
    have hb' : b < h'.1 := Nat.lt_of_lt_of_le hb h1
    simp only [aasOK, Bool.and_eq_true, decide_eq_true_eq, ht b hb] at hv ⊢
    exact ⟨hb', hv.2⟩
  | _ => cases hv
theorem A24.cells {h h' : pheap} (hA : A24 h) (h1 : h'.1 = h.1) (hc : ∀ a, 5 ≤ a → a < h.1 → (h'.2.2 a).1 = (h.2.2 a).1 ∧ (h'.2.2 a).2.1 = (h.2.2 a).2.1 ∧ ((h.2.2 a).1 = 24 → ∀ j, j < (h.2.2 a).2.1 → aasOK h 24 ((h'.2.2 a).2.2 j) = true)) (ho : ∀ a, a < 5 → (h'.2.2 a).1 = (h.2.2 a).1) : A24 h' := by
  have ht : ∀ b, b < h.1 → (h'.2.2 b).1 = (h.2.2 b).1 := fun b hb => by
    rcases Nat.lt_or_ge b 5 with z | z
    · exact ho b z
    · exact (hc b z hb).1
  intro a h5 ha
  rw [h1] at ha
  obtain ⟨c1, c2, c3⟩ := hc a h5 ha
  refine ⟨by rw [c2]; exact (hA a h5 ha).1, fun z j hj => ?_⟩
  rw [c1] at z
  rw [c2] at hj
  exact aas_mono (h := h) (Nat.le_of_eq h1.symm) ht (c3 z j hj)
theorem A24.set {h : pheap} {a i : Nat} {v : Value} (hA : A24 h) (hv : (h.2.2 a).1 = 24 → aasOK h 24 v = true) : A24 (hset h a i v) := by
  have e : ∀ b, (hset h a i v).2.2 b = if b = a then ((h.2.2 b).1, (h.2.2 b).2.1, updV (h.2.2 b).2.2 i v) else h.2.2 b := fun b => by
    show (if b = a then ((h.2.2 a).1, (h.2.2 a).2.1, updV (h.2.2 a).2.2 i v) else h.2.2 b) = _
    by_cases hb : b = a
    · rw [if_pos hb, if_pos hb, hb]
    · rw [if_neg hb, if_neg hb]
  refine hA.cells rfl (fun b h5 hb => ?_) (fun b _ => ?_)
  · rw [e b]
    by_cases hba : b = a
    · rw [if_pos hba]
      refine ⟨rfl, rfl, fun z j hj => ?_⟩
      show aasOK h 24 (updV (h.2.2 b).2.2 i v j) = true
      unfold updV
      by_cases hji : j = i
      · rw [if_pos hji]; exact hv (by rw [← hba]; exact z)
      · rw [if_neg hji]; exact (hA b h5 hb).2 z j hj
    · rw [if_neg hba]
      exact ⟨rfl, rfl, (hA b h5 hb).2⟩
  · rw [e b]
    by_cases hba : b = a
    · rw [if_pos hba]
    · rw [if_neg hba]
theorem A24.push {h : pheap} {t n : Nat} {f : Nat → Value} (hA : A24 h) (hn : n ≤ 100000) (hf : t = 24 → ∀ j, j < n → aasOK h 24 (f j) = true) : A24 (hnew h t n f) := by
  have ht : ∀ b, b < h.1 → ((hnew h t n f).2.2 b).1 = (h.2.2 b).1 := fun b hb => by
    show (if b = h.1 then _ else h.2.2 b).1 = _
    rw [if_neg (by omega)]
  intro b h5 hb
  have hb : b < h.1 + 1 := hb
  by_cases hba : b = h.1
  · have e : (hnew h t n f).2.2 b = (t, n, f) := if_pos hba
    rw [e]
    exact ⟨hn, fun z j hj => aas_mono (h := h) (Nat.le_succ _) ht (hf z j hj)⟩
  · have e : (hnew h t n f).2.2 b = h.2.2 b := if_neg hba
    rw [e]
    exact ⟨(hA b h5 (by omega)).1, fun z j hj => aas_mono (h := h) (Nat.le_succ _) ht ((hA b h5 (by omega)).2 z j hj)⟩
theorem A24.mul {h : pheap} {n m : Nat} (hA : A24 h) (hn : n ≤ 100000) (hm : m ≤ 100000) : A24 (hmul h n m) := by
  have ht : ∀ b, b < h.1 → (hmul h n m).2.2 b = h.2.2 b := fun b hb => (if_neg (by omega)).trans (if_neg (by omega))
  intro b h5 hb
  have hb : b < h.1 + 1 + n := hb
  by_cases h1 : b < h.1
  · rw [ht b h1]
    exact ⟨(hA b h5 h1).1, fun z j hj => aas_mono (h := h) (by show h.1 ≤ h.1 + 1 + n; omega) (fun b hb => by rw [ht b hb]) ((hA b h5 h1).2 z j hj)⟩
  · by_cases h2 : b = h.1
    · have e : (hmul h n m).2.2 b = (27, n, fun j => .ref (h.1 + 1 + j)) := if_pos h2
      rw [e]
      exact ⟨hn, fun z => absurd (show 27 = 24 from z) (by decide)⟩
    · have e : (hmul h n m).2.2 b = (22, m, fun _ => .int 0) := (if_neg h2).trans (if_pos ⟨by omega, by omega⟩)
      rw [e]
      exact ⟨hm, fun z => absurd (show 22 = 24 from z) (by decide)⟩
def Rp (C : cx) (h : pheap) (H : Heap) : Prop := (5 ≤ h.1 ∧ A24 h) ∧ H.size = C.2.2.2.1 + (h.1 - 5) ∧ (∀ q : Nat, q < C.2.2.2.1 → H[q]? = C.1.heap[q]?) ∧ ∀ a : Nat, a < h.1 → cR C a (h.2.2 a) H[ad C a]?
def CX (C : cx) : Prop := (∀ (c : Nat) (q : vw_C), vwCl[c]? = some q → u_Kn C.1 q.1 q.2.1 q.2.2 (C.2.1 c) (C.2.2.1 c)) ∧ C.2.2.2.1 = C.1.heap.size ∧ (∀ k : Nat, k < 5 → C.2.2.2.2 k < C.2.2.2.1) ∧
  ∀ k : Nat, 0 < k → k < 5 → va_Z (stNm k).1 (stNm k).2.1 (stNm k).2.2 (.ref (C.2.2.2.2 k)) (fun q => C.2.2.2.1 ≤ q) C.1 C.1.heap
theorem ad_new {C : cx} {a : Nat} (h : 5 ≤ a) : ad C a = C.2.2.2.1 + (a - 5) := if_neg (Nat.not_lt.mpr h)
theorem ad_old {C : cx} {a : Nat} (h : a < 5) : ad C a = C.2.2.2.2 a := if_pos h
theorem ad_ne {C : cx} (hC : CX C) {a b : Nat} (ha : 5 ≤ a) (h : b ≠ a) : ad C b ≠ ad C a := by
  rw [ad_new ha]
  by_cases hb : b < 5
  · rw [ad_old hb]
    have := hC.2.2.1 b hb
    omega
  · rw [ad_new (by omega)]
    omega
theorem ad_lt {C : cx} (hC : CX C) {h : pheap} {H : Heap} (hR : Rp C h H) {a : Nat} (ha : a < h.1) : ad C a < H.size := by
  rw [hR.2.1]
  by_cases hb : a < 5
  · rw [ad_old hb]
    have := hC.2.2.1 a hb
    omega
  · rw [ad_new (by omega)]
    omega
theorem hset_1 (h : pheap) (a i : Nat) (v : Value) : (hset h a i v).1 = h.1 := rfl
theorem hset_u (h : pheap) (a i : Nat) (v : Value) : (hset h a i v).2.1 = h.2.1 := rfl
theorem hset_at (h : pheap) (a i : Nat) (v : Value) : (hset h a i v).2.2 a = ((h.2.2 a).1, (h.2.2 a).2.1, updV (h.2.2 a).2.2 i v) := if_pos rfl
theorem hset_ne (h : pheap) {a b : Nat} (i : Nat) (v : Value) (hb : b ≠ a) : (hset h a i v).2.2 b = h.2.2 b := if_neg hb
theorem Rp.set {C : cx} (hC : CX C) {h : pheap} {H H' : Heap} (hR : Rp C h H) {a i : Nat} {v : Value} (h5 : 5 ≤ a) {cell' : Jvm.Cell} (e1 : H'[ad C a]? = some cell') (e2 : H'.size = H.size) (e3 : ∀ q : Nat, q ≠ ad C a → H'[q]? = H[q]?)
    (hc : cR C a ((h.2.2 a).1, (h.2.2 a).2.1, updV (h.2.2 a).2.2 i v) (some cell')) (hv : (h.2.2 a).1 = 24 → aasOK h 24 v = true) : Rp C (hset h a i v) H' := by
  refine ⟨⟨hR.1.1, hR.1.2.set hv⟩, e2.trans hR.2.1, fun q hq => ?_, fun b hb => ?_⟩
  · rw [e3 q (by rw [ad_new h5]; omega)]
    exact hR.2.2.1 q hq
  · by_cases hba : b = a
    · subst hba
      rw [hset_at, e1]
      exact hc
    · rw [hset_ne h i v hba, e3 _ (ad_ne hC h5 hba)]
      exact hR.2.2.2 b hb
theorem Rp.top {C : cx} {h : pheap} {H : Heap} (hR : Rp C h H) : ad C h.1 = H.size := by rw [ad_new hR.1.1, hR.2.1]
theorem Rp.push {C : cx} (hC : CX C) {h : pheap} {H H' : Heap} (hR : Rp C h H) {t n : Nat} {f : Nat → Value} {cell' : Jvm.Cell} (e1 : H'[H.size]? = some cell') (e2 : H'.size = H.size + 1) (e3 : ∀ q : Nat, q < H.size → H'[q]? = H[q]?)
    (hc : cR C h.1 (t, n, f) (some cell')) (hn : n ≤ 100000) (hf : t = 24 → ∀ j, j < n → aasOK h 24 (f j) = true) : Rp C (hnew h t n f) H' := by
  have h1 := hR.1.1
  refine ⟨⟨by show 5 ≤ h.1 + 1; omega, hR.1.2.push hn hf⟩, by rw [e2, hR.2.1]; show _ = _ + (h.1 + 1 - 5); omega, fun q hq => ?_, fun b hb => ?_⟩
  · rw [e3 q (by rw [hR.2.1]; omega)]
    exact hR.2.2.1 q hq
  · have hb : b < h.1 + 1 := hb
    by_cases hba : b = h.1
    · subst hba
      show cR C h.1 (if h.1 = h.1 then (t, n, f) else h.2.2 h.1) _
      rw [if_pos rfl, hR.top, e1]
      exact hc
    · show cR C b (if b = h.1 then (t, n, f) else h.2.2 b) _
      rw [if_neg hba, e3 _ (ad_lt hC hR (by omega))]
      exact hR.2.2.2 b (by omega)
theorem updV_rv (C : cx) (f : Nat → Value) (i : Nat) (v : Value) (j : Nat) : rv C (updV f i v j) = updV (fun k => rv C (f k)) i (rv C v) j := by
  unfold updV
  split <;> rfl
/-- locals -/
def lpr (C : cx) : Nat → List Value → List (Nat × Value)
  | _, [] => []
  | i, v :: r => if v = mk0 then lpr C (i + 1) r else (i, rv C v) :: lpr C (i + 1) r
theorem lpr_mem {C : cx} : ∀ {ls : List Value} {i : Nat} {q : Nat × Value}, q ∈ lpr C i ls ↔ ∃ (j : Nat) (v : Value), ls[j]? = some v ∧ q.1 = i + j ∧ v ≠ mk0 ∧ q.2 = rv C v
  | [], i, q => by simp [lpr]
  | w :: r, i, q => by
    have ih := @lpr_mem C r (i + 1) q
    unfold lpr
    constructor
    · intro h
      by_cases hw : w = mk0
      · rw [if_pos hw] at h
        obtain ⟨j, v, h1, h2, h3⟩ := ih.mp h
        exact ⟨j + 1, v, by simpa using h1, by omega, h3⟩
      · rw [if_neg hw] at h
        rcases List.mem_cons.mp h with h | h
        · subst h
          exact ⟨0, w, rfl, rfl, hw, rfl⟩
        · obtain ⟨j, v, h1, h2, h3⟩ := ih.mp h
          exact ⟨j + 1, v, by simpa using h1, by omega, h3⟩
    · rintro ⟨j, v, h1, h2, h3, h4⟩
      cases j with
      | zero =>
        have hv : w = v := by simpa using h1
        subst hv
        rw [if_neg h3]
        exact List.mem_cons.mpr (Or.inl (Prod.ext (by simpa using h2) h4))
      | succ j =>
        have h5 := ih.mpr ⟨j, v, by simpa using h1, by omega, h3, h4⟩
        split
        · exact h5
        · exact List.mem_cons_of_mem _ h5
def lR (C : cx) (ls : List Value) (A : Array Slot) : Prop := lv_has A ls.length (lpr C 0 ls)
theorem lv_mono {A : Array Slot} {n : Nat} {l l' : List (Nat × Value)} (h : lv_has A n l) (hs : ∀ q ∈ l', q ∈ l) : lv_has A n l' := ⟨h.1, h.2.1, fun q hq => h.2.2 q (hs q hq)⟩
theorem lR_at {C : cx} {ls : List Value} {A : Array Slot} (h : lR C ls A) {i : Nat} {v : Value} (hi : ls[i]? = some v) (hv : v ≠ mk0) : A[i]? = some (.val (rv C v)) :=
  h.2.2 (i, rv C v) (lpr_mem.mpr ⟨i, v, hi, by simp, hv, rfl⟩)
theorem lR_st1 {C : cx} {ls ls' : List Value} {A' : Array Slot} {i : Nat} {v : Value} (hs : st1 ls i v = some ls')
    (h : lv_has A' ls.length ((i, rv C v) :: (lpr C 0 ls).filter (fun q => !(q.1 == i) && !(q.1 + 1 == i && q.2.category == 2)))) : lR C ls' A' := by
  unfold st1 at hs
  split at hs
  · rename_i hc
    cases hs
    unfold lR
    rw [List.length_set]
    refine lv_mono h (fun q hq => ?_)
    obtain ⟨j, w, h1, h2, h3, h4⟩ := lpr_mem.mp hq
    rw [List.getElem?_set] at h1
    by_cases hj : i = j
    · subst hj
      rw [if_pos rfl, if_pos hc.1] at h1
      cases h1
      exact List.mem_cons.mpr (Or.inl (Prod.ext (by simpa using h2) h4))
    · rw [if_neg hj] at h1
      refine List.mem_cons_of_mem _ (List.mem_filter.mpr ⟨lpr_mem.mpr ⟨j, w, h1, h2, h3, h4⟩, ?_⟩)
      have e1 : q.1 = j := by omega
      have hn : ¬ (j + 1 = i ∧ w.category = 2) := by
        rintro ⟨a1, a2⟩
        rcases hc.2 with hc | hc
        · omega
        · rw [show i - 1 = j by omega, List.getD_eq_getElem?_getD, h1] at hc
          simp only [Option.getD_some] at hc
          omega
      rw [h4, rv_cat, e1]
      by_cases a1 : j + 1 = i
      · have a2 : ¬ w.category = 2 := fun z => hn ⟨a1, z⟩
        simp [a2]
        omega
      · simp [a1]
        omega
  · cases hs
theorem lR_st2 {C : cx} {ls ls' : List Value} {A' : Array Slot} {i : Nat} {v : Value} (hs : st2 ls i v = some ls')
    (h : lv_has A' ls.length ((i, rv C v) :: (lpr C 0 ls).filter (fun q => !(q.1 == i) && (!(q.1 == i + 1) && !(q.1 + 1 == i && q.2.category == 2))))) : lR C ls' A' := by
  unfold st2 at hs
  split at hs
  · rename_i hc
    cases hs
    unfold lR
    rw [List.length_set, List.length_set]
    refine lv_mono h (fun q hq => ?_)
    obtain ⟨j, w, h1, h2, h3, h4⟩ := lpr_mem.mp hq
    rw [List.getElem?_set] at h1
    by_cases hj : i + 1 = j
    · subst hj
      rw [if_pos rfl] at h1
      split at h1
      · cases h1
        exact absurd rfl h3
      · cases h1
    · rw [if_neg hj, List.getElem?_set] at h1
      by_cases hj2 : i = j
      · subst hj2
        rw [if_pos rfl] at h1
        split at h1
        · cases h1
          exact List.mem_cons.mpr (Or.inl (Prod.ext (by simpa using h2) h4))
        · cases h1
      · rw [if_neg hj2] at h1
        refine List.mem_cons_of_mem _ (List.mem_filter.mpr ⟨lpr_mem.mpr ⟨j, w, h1, h2, h3, h4⟩, ?_⟩)
        have e1 : q.1 = j := by omega
        have hn : ¬ (j + 1 = i ∧ w.category = 2) := by
          rintro ⟨a1, a2⟩
          rcases hc.2 with hc | hc
          · omega
          · rw [show i - 1 = j by omega, List.getD_eq_getElem?_getD, h1] at hc
            simp only [Option.getD_some] at hc
            omega
        rw [h4, rv_cat, e1]
        by_cases a1 : j + 1 = i
        · have a2 : ¬ w.category = 2 := fun z => hn ⟨a1, z⟩
          simp [a2]
          omega
        · simp [a1]
          omega
  · cases hs
theorem st1_len {ls ls' : List Value} {i : Nat} {v : Value} (hs : st1 ls i v = some ls') : i < ls.length ∧ ls'.length = ls.length := by
  unfold st1 at hs
  split at hs
  · rename_i hc
    cases hs
    exact ⟨hc.1, by simp⟩
  · cases hs
theorem st2_len {ls ls' : List Value} {i : Nat} {v : Value} (hs : st2 ls i v = some ls') : i + 1 < ls.length ∧ ls'.length = ls.length := by
  unfold st2 at hs
  split at hs
  · rename_i hc
    cases hs
    exact ⟨hc.1, by simp⟩
  · cases hs
/-- the entry's locals -/
theorem lgl_args {C : cx} : ∀ (vs : List Value) (i : Nat) (q : Nat × Value), q ∈ lpr C i (lgl vs) → q ∈ lv_args i (vs.map (rv C))
  | [], i, q, h => by simp [lgl, lpr] at h
  | v :: r, i, q, h => by
    unfold lgl at h
    show q ∈ (i, rv C v) :: lv_args (if (rv C v).category = 2 then i + 2 else i + 1) (r.map (rv C))
    rw [rv_cat]
    by_cases hc : v.category = 2
    · have hv : v ≠ mk0 := by rintro rfl; simp [Value.category] at hc
      rw [if_pos hc] at h ⊢
      unfold lpr at h
      rw [if_neg hv] at h
      rcases List.mem_cons.mp h with h | h
      · exact List.mem_cons.mpr (Or.inl h)
      · unfold lpr at h
        rw [if_pos rfl] at h
        exact List.mem_cons_of_mem _ (lgl_args r (i + 2) q h)
    · rw [if_neg hc] at h ⊢
      unfold lpr at h
      by_cases hv : v = mk0
      · rw [if_pos hv] at h
        exact List.mem_cons_of_mem _ (lgl_args r (i + 1) q h)
      · rw [if_neg hv] at h
        rcases List.mem_cons.mp h with h | h
        · exact List.mem_cons.mpr (Or.inl h)
        · exact List.mem_cons_of_mem _ (lgl_args r (i + 1) q h)
theorem lgl_len (C : cx) : ∀ vs : List Value, (lg_sl (vs.map (rv C))).length = (lgl vs).length
  | [] => rfl
  | v :: r => by
    have ih := lgl_len C r
    rw [show lg_sl ((v :: r).map (rv C)) = (if (rv C v).category = 2 then [.val (rv C v), .second] else [.val (rv C v)]) ++ lg_sl (r.map (rv C)) from rfl, List.length_append, ih, rv_cat]
    show _ = (if v.category = 2 then v :: mk0 :: lgl r else v :: lgl r).length
    split <;> simp <;> omega
theorem lpr_app {C : cx} {a b : List Value} {i : Nat} {q : Nat × Value} (hb : ∀ v ∈ b, v = mk0) (h : q ∈ lpr C i (a ++ b)) : q ∈ lpr C i a := by
  obtain ⟨j, w, h1, h2, h3, h4⟩ := lpr_mem.mp h
  refine lpr_mem.mpr ⟨j, w, ?_, h2, h3, h4⟩
  rcases Nat.lt_or_ge j a.length with z | z
  · rwa [List.getElem?_append_left z] at h1
  · rw [List.getElem?_append_right z] at h1
    exact absurd (hb w (List.mem_of_getElem? h1)) h3
theorem lR_entry {C : cx} {vs : List Value} {n : Nat} (hn : (lgl vs).length ≤ n) : lR C (entL n vs) ((lg_sl (vs.map (rv C)) ++ List.replicate (n - (lg_sl (vs.map (rv C))).length) Slot.unset).toArray) := by
  have hl := lv_entry (vs.map (rv C)) (n := n) (by rw [lgl_len]; exact hn)
  unfold lR entL
  rw [show (lgl vs ++ List.replicate (n - (lgl vs).length) mk0).length = n by simp; omega]
  refine lv_mono hl (fun q hq => lgl_args vs 0 q (lpr_app (fun v hv => ?_) hq))
  exact (List.mem_replicate.mp hv).2
