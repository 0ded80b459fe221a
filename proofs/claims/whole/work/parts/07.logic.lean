/-! the pure machine as equations: Go says that a run from here ends, and how -/
theorem xc_le {F G : Nat → pheap → Nat → Nat → List Value → List Value → Option (Option Value × pheap)} (hFG : ∀ d h k pc ls st q, F d h k pc ls st = some q → G d h k pc ls st = some q) {d : Nat} {h : pheap} {k pc j kd : Nat} {ls st : List Value} {q : Option Value × pheap} (hx : xc F d h k pc ls st j kd = some q) : xc G d h k pc ls st j kd = some q := by
  cases d with
  | zero => cases hx
  | succ d' =>
    unfold xc at hx ⊢
    dsimp only at hx ⊢
    by_cases h9 : 900 ≤ j
    · rw [if_pos h9] at hx ⊢
      by_cases hk : (j = 900 ∧ kd = 1) ∨ (901 ≤ j ∧ kd = 0)
      · rw [if_pos hk] at hx ⊢
        cases hq : xin j h st with
        | none => rw [hq] at hx; cases hx
        | some t =>
          obtain ⟨r, h', rest⟩ := t
          rw [hq] at hx
          dsimp only at hx ⊢
          by_cases hc : catS rest ≤ 8
          · rw [if_pos hc] at hx ⊢
            exact hFG _ _ _ _ _ _ _ hx
          · rw [if_neg hc] at hx; cases hx
      · rw [if_neg hk] at hx; cases hx
    · rw [if_neg h9] at hx ⊢
      cases hq : xarg j kd h st with
      | none => rw [hq] at hx; cases hx
      | some t =>
        obtain ⟨as, rest⟩ := t
        rw [hq] at hx
        dsimp only at hx ⊢
        by_cases hc : catS rest ≤ 8 ∧ (lgl as).length ≤ mL j
        · rw [if_pos hc] at hx ⊢
          cases hF : F d' h j 0 (entL (mL j) as) [] with
          | none => rw [hF] at hx; cases hx
          | some t2 =>
            obtain ⟨r, h'⟩ := t2
            rw [hF] at hx
            rw [hFG _ _ _ _ _ _ _ hF]
            exact hFG _ _ _ _ _ _ _ hx
        · rw [if_neg hc] at hx; cases hx
theorem xe_le1 : ∀ (n d : Nat) (h : pheap) (k pc : Nat) (ls st : List Value) (q : Option Value × pheap), xe n d h k pc ls st = some q → xe (n + 1) d h k pc ls st = some q
  | 0, d, h, k, pc, ls, st, q, hx => by cases hx
  | n + 1, d, h, k, pc, ls, st, q, hx => by
    have ih := xe_le1 n
    unfold xe at hx ⊢
    cases hf : fetch k pc with
    | none => rw [hf] at hx; cases hx
    | some t =>
      obtain ⟨i, len⟩ := t
      rw [hf] at hx
      dsimp only at hx ⊢
      cases i
      case ireturn => exact hx
      case lreturn => exact hx
      case areturn => exact hx
      case return_ => exact hx
      case invokestatic j => exact xc_le ih hx
      case invokespecial j => exact xc_le ih hx
      case invokevirtual j => exact xc_le ih hx
      all_goals
        dsimp only at hx ⊢
        split at hx
        · cases hx
        · rename_i h2 pc2 ls2 st2 hq
          exact ih _ _ _ _ _ _ _ hx
theorem xe_le {n m d : Nat} {h : pheap} {k pc : Nat} {ls st : List Value} {q : Option Value × pheap} (hnm : n ≤ m) (hx : xe n d h k pc ls st = some q) : xe m d h k pc ls st = some q := by
  induction hnm with
  | refl => exact hx
  | step _ ih => exact xe_le1 _ _ _ _ _ _ _ _ ih
def Go (d k pc : Nat) (ls st : List Value) (h : pheap) (Q : Option Value → pheap → Prop) : Prop := ∃ (n : Nat) (r : Option Value) (h' : pheap), xe n d h k pc ls st = some (r, h') ∧ Q r h'
theorem go_mono {d k pc : Nat} {ls st : List Value} {h : pheap} {Q Q' : Option Value → pheap → Prop} (hg : Go d k pc ls st h Q) (hq : ∀ r h', Q r h' → Q' r h') : Go d k pc ls st h Q' := by
  obtain ⟨n, r, h', h1, h2⟩ := hg
  exact ⟨n, r, h', h1, hq r h' h2⟩
section
variable {d k pc len : Nat} {ls st : List Value} {h : pheap} {Q : Option Value → pheap → Prop}
theorem g_xs {i : Instr} {h' : pheap} {pc' : Nat} {ls' st' : List Value} (hf : fetch k pc = some (i, len)) (hx : xs h (pc + len) ls st i = some (h', pc', ls', st')) : Go d k pc ls st h Q = Go d k pc' ls' st' h' Q := by
  have hstep : ∀ n, xe (n + 1) d h k pc ls st = xe n d h' k pc' ls' st' := by
    intro n
    conv => lhs; unfold xe
    rw [hf]
    dsimp only
    cases i
    case ireturn => exfalso; revert hx; dsimp only [xs]; split <;> intro hx <;> first | (dsimp only [xi, xl, Option.map] at hx; cases hx; done) | (cases hx; done)
    case lreturn => exfalso; revert hx; dsimp only [xs]; split <;> intro hx <;> first | (dsimp only [xi, xl, Option.map] at hx; cases hx; done) | (cases hx; done)
    case areturn => exfalso; revert hx; dsimp only [xs]; split <;> intro hx <;> first | (dsimp only [xi, xl, Option.map] at hx; cases hx; done) | (cases hx; done)
    case return_ => exfalso; revert hx; dsimp only [xs]; split <;> intro hx <;> first | (dsimp only [xi, xl, Option.map] at hx; cases hx; done) | (cases hx; done)
    case invokestatic => exfalso; revert hx; dsimp only [xs]; split <;> intro hx <;> first | (dsimp only [xi, xl, Option.map] at hx; cases hx; done) | (cases hx; done)
    case invokespecial => exfalso; revert hx; dsimp only [xs]; split <;> intro hx <;> first | (dsimp only [xi, xl, Option.map] at hx; cases hx; done) | (cases hx; done)
    case invokevirtual => exfalso; revert hx; dsimp only [xs]; split <;> intro hx <;> first | (dsimp only [xi, xl, Option.map] at hx; cases hx; done) | (cases hx; done)
    all_goals first | rw [hx] | (dsimp only; rw [hx])
  apply propext
  constructor
  · rintro ⟨n, r, h2, h1, hq⟩
    cases n with
    | zero => cases h1
    | succ n => exact ⟨n, r, h2, by rw [← hstep]; exact h1, hq⟩
  · rintro ⟨n, r, h2, h1, hq⟩
    exact ⟨n + 1, r, h2, by rw [hstep]; exact h1, hq⟩
/-- an instruction that asks for something first -/
theorem g_if {i : Instr} {P : Prop} {h' : pheap} {pc' : Nat} {ls' st' : List Value} (hf : fetch k pc = some (i, len)) (hp : P → xs h (pc + len) ls st i = some (h', pc', ls', st')) (hn : ¬ P → xs h (pc + len) ls st i = none) (hret : i ≠ .ireturn ∧ i ≠ .lreturn ∧ i ≠ .areturn ∧ i ≠ .return_ ∧ (∀ j, i ≠ .invokestatic j) ∧ (∀ j, i ≠ .invokespecial j) ∧ ∀ j, i ≠ .invokevirtual j) : Go d k pc ls st h Q = (P ∧ Go d k pc' ls' st' h' Q) := by
  by_cases hP : P
  · rw [g_xs hf (hp hP)]
    exact propext ⟨fun z => ⟨hP, z⟩, fun z => z.2⟩
  · refine propext ⟨fun z => ?_, fun z => absurd z.1 hP⟩
    exfalso
    obtain ⟨n, r, h2, h1, hq⟩ := z
    cases n with
    | zero => cases h1
    | succ n =>
      unfold xe at h1
      rw [hf] at h1
      dsimp only at h1
      obtain ⟨c1, c2, c3, c4, c5, c6, c7⟩ := hret
      split at h1
      · exact c1 rfl
      · exact c2 rfl
      · exact c3 rfl
      · exact c4 rfl
      · exact c5 _ rfl
      · exact c6 _ rfl
      · exact c7 _ rfl
      · rw [hn hP] at h1
        cases h1
theorem g_ireturn {v : Int32} (hf : fetch k pc = some (.ireturn, len)) : Go d k pc ls [.int v] h Q = (retOK (mR k) v = true ∧ Q (some (.int v)) h) := by
  apply propext
  constructor
  · rintro ⟨n, r, h2, h1, hq⟩
    cases n with
    | zero => cases h1
    | succ n =>
      unfold xe at h1
      rw [hf] at h1
      dsimp only at h1
      split at h1
      · rename_i z; cases h1; exact ⟨z, hq⟩
      · cases h1
  · rintro ⟨z, hq⟩
    exact ⟨1, _, _, by unfold xe; rw [hf]; dsimp only; rw [if_pos z], hq⟩
theorem g_lreturn {v : Int64} (hf : fetch k pc = some (.lreturn, len)) : Go d k pc ls [.long v] h Q = (mR k = some .long ∧ Q (some (.long v)) h) := by
  apply propext
  constructor
  · rintro ⟨n, r, h2, h1, hq⟩
    cases n with
    | zero => cases h1
    | succ n =>
      unfold xe at h1
      rw [hf] at h1
      dsimp only at h1
      split at h1
      · rename_i z; cases h1; exact ⟨z, hq⟩
      · cases h1
  · rintro ⟨z, hq⟩
    exact ⟨1, _, _, by unfold xe; rw [hf]; dsimp only; rw [if_pos z], hq⟩
theorem g_areturn {a : Nat} (hf : fetch k pc = some (.areturn, len)) : Go d k pc ls [.ref a] h Q = (retRef (mR k) = true ∧ Q (some (.ref a)) h) := by
  apply propext
  constructor
  · rintro ⟨n, r, h2, h1, hq⟩
    cases n with
    | zero => cases h1
    | succ n =>
      unfold xe at h1
      rw [hf] at h1
      dsimp only at h1
      split at h1
      · rename_i z; cases h1; exact ⟨z, hq⟩
      · cases h1
  · rintro ⟨z, hq⟩
    exact ⟨1, _, _, by unfold xe; rw [hf]; dsimp only; rw [if_pos z], hq⟩
theorem g_areturnN (hf : fetch k pc = some (.areturn, len)) : Go d k pc ls [.null] h Q = (retRef (mR k) = true ∧ Q (some .null) h) := by
  apply propext
  constructor
  · rintro ⟨n, r, h2, h1, hq⟩
    cases n with
    | zero => cases h1
    | succ n =>
      unfold xe at h1
      rw [hf] at h1
      dsimp only at h1
      split at h1
      · rename_i z; cases h1; exact ⟨z, hq⟩
      · cases h1
  · rintro ⟨z, hq⟩
    exact ⟨1, _, _, by unfold xe; rw [hf]; dsimp only; rw [if_pos z], hq⟩
theorem g_return (hf : fetch k pc = some (.return_, len)) : Go d k pc ls [] h Q = (mR k = none ∧ Q none h) := by
  apply propext
  constructor
  · rintro ⟨n, r, h2, h1, hq⟩
    cases n with
    | zero => cases h1
    | succ n =>
      unfold xe at h1
      rw [hf] at h1
      dsimp only at h1
      split at h1
      · rename_i z; cases h1; exact ⟨z, hq⟩
      · cases h1
  · rintro ⟨z, hq⟩
    exact ⟨1, _, _, by unfold xe; rw [hf]; dsimp only; rw [if_pos z], hq⟩
theorem g_xc {i : Instr} {j kd d' : Nat} (hf : fetch k pc = some (i, len)) (hi : (i = .invokestatic j ∧ kd = 0) ∨ (i = .invokespecial j ∧ kd = 1) ∨ (i = .invokevirtual j ∧ kd = 2)) (n : Nat) : xe (n + 1) d h k pc ls st = xc (xe n) d h k (pc + len) ls st j kd := by
  conv => lhs; unfold xe
  rw [hf]
  rcases hi with ⟨rfl, rfl⟩ | ⟨rfl, rfl⟩ | ⟨rfl, rfl⟩ <;> rfl
/-- a call of a method of ours -/
theorem g_call {i : Instr} {j kd d' : Nat} {as rest : List Value} (hf : fetch k pc = some (i, len)) (hi : (i = .invokestatic j ∧ kd = 0) ∨ (i = .invokespecial j ∧ kd = 1) ∨ (i = .invokevirtual j ∧ kd = 2)) (hj : j < 900) (ha : xarg j kd h st = some (as, rest)) (hc : catS rest ≤ 8 ∧ (lgl as).length ≤ mL j) :
    Go (d' + 1) k pc ls st h Q = Go d' j 0 (entL (mL j) as) [] h (fun r h' => Go (d' + 1) k (pc + len) ls (r.toList ++ rest) h' Q) := by
  have hstep : ∀ n, xe (n + 1) (d' + 1) h k pc ls st = (match xe n d' h j 0 (entL (mL j) as) [] with
      | none => none
      | some (r, h') => xe n (d' + 1) h' k (pc + len) ls (r.toList ++ rest)) := by
    intro n
    rw [g_xc (d' := d') hf hi]
    unfold xc
    dsimp only
    rw [if_neg (by omega), ha]
    dsimp only
    rw [if_pos hc]
    rfl
  apply propext
  constructor
  · rintro ⟨n, r, h2, h1, hq⟩
    cases n with
    | zero => cases h1
    | succ n =>
      rw [hstep] at h1
      cases hF : xe n d' h j 0 (entL (mL j) as) [] with
      | none => rw [hF] at h1; cases h1
      | some t =>
        obtain ⟨r1, h3⟩ := t
        rw [hF] at h1
        exact ⟨n, r1, h3, hF, n, r, h2, h1, hq⟩
  · rintro ⟨n, r1, h3, hF, m, r, h2, h1, hq⟩
    refine ⟨n + m + 1, r, h2, ?_, hq⟩
    rw [hstep, xe_le (by omega) hF]
    exact xe_le (by omega) h1
/-- a member of the library that is taken whole -/
theorem g_intr {i : Instr} {j kd d' : Nat} {r : Option Value} {h' : pheap} {rest : List Value} (hf : fetch k pc = some (i, len)) (hi : (i = .invokestatic j ∧ kd = 0) ∨ (i = .invokespecial j ∧ kd = 1) ∨ (i = .invokevirtual j ∧ kd = 2)) (hj : 900 ≤ j) (hk : (j = 900 ∧ kd = 1) ∨ (901 ≤ j ∧ kd = 0)) (ha : xin j h st = some (r, h', rest)) (hc : catS rest ≤ 8) :
    Go (d' + 1) k pc ls st h Q = Go (d' + 1) k (pc + len) ls (r.toList ++ rest) h' Q := by
  have hstep : ∀ n, xe (n + 1) (d' + 1) h k pc ls st = xe n (d' + 1) h' k (pc + len) ls (r.toList ++ rest) := by
    intro n
    rw [g_xc (d' := d') hf hi]
    unfold xc
    dsimp only
    rw [if_pos hj, if_pos hk, ha]
    dsimp only
    rw [if_pos hc]
  apply propext
  constructor
  · rintro ⟨n, r2, h2, h1, hq⟩
    cases n with
    | zero => cases h1
    | succ n => exact ⟨n, r2, h2, by rw [← hstep]; exact h1, hq⟩
  · rintro ⟨n, r2, h2, h1, hq⟩
    exact ⟨n + 1, r2, h2, by rw [hstep]; exact h1, hq⟩
end
