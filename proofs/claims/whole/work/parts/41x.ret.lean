/-! what a method gives back is of its sort -/
theorem xc_F {F : Nat → pheap → Nat → Nat → List Value → List Value → Option (Option Value × pheap)} {d : Nat} {h : pheap} {k pc : Nat} {ls st : List Value} {j kd : Nat} {r : Option Value} {h' : pheap} (hx : xc F d h k pc ls st j kd = some (r, h')) : ∃ d2 h2 st2, F d2 h2 k pc ls st2 = some (r, h') := by
  unfold xc at hx
  split at hx
  · cases hx
  · split at hx
    · split at hx
      · split at hx
        · cases hx
        · split at hx
          · exact ⟨_, _, _, hx⟩
          · cases hx
      · cases hx
    · split at hx
      · cases hx
      · split at hx
        · split at hx
          · cases hx
          · exact ⟨_, _, _, hx⟩
        · cases hx
theorem xe_ret {k : Nat} : ∀ (n d : Nat) (h : pheap) (pc : Nat) (ls st : List Value) (r : Option Value) (h' : pheap), xe n d h k pc ls st = some (r, h') → (∃ z, r = some (.int z) ∧ retOK (mR k) z = true) ∨ (∃ z, r = some (.long z) ∧ mR k = some .long) ∨ retRef (mR k) = true ∨ mR k = none
  | 0, _, _, _, _, _, _, _, hx => by cases hx
  | n + 1, d, h, pc, ls, st, r, h', hx => by
    unfold xe at hx
    split at hx
    · cases hx
    · split at hx
      · split at hx
        · split at hx
          · cases hx
            exact Or.inl ⟨_, rfl, by assumption⟩
          · cases hx
        · cases hx
      · split at hx
        · split at hx
          · cases hx
            exact Or.inr (Or.inl ⟨_, rfl, by assumption⟩)
          · cases hx
        · cases hx
      · split at hx
        · split at hx
          · exact Or.inr (Or.inr (Or.inl (by assumption)))
          · cases hx
        · split at hx
          · exact Or.inr (Or.inr (Or.inl (by assumption)))
          · cases hx
        · cases hx
      · split at hx
        · split at hx
          · exact Or.inr (Or.inr (Or.inr (by assumption)))
          · cases hx
        · cases hx
      · obtain ⟨d2, h2, st2, hF⟩ := xc_F hx
        exact xe_ret n d2 h2 _ ls st2 r h' hF
      · obtain ⟨d2, h2, st2, hF⟩ := xc_F hx
        exact xe_ret n d2 h2 _ ls st2 r h' hF
      · obtain ⟨d2, h2, st2, hF⟩ := xc_F hx
        exact xe_ret n d2 h2 _ ls st2 r h' hF
      · split at hx
        · cases hx
        · exact xe_ret n d _ _ _ _ r h' hx
theorem go_int {d k pc : Nat} {ls st : List Value} {h : pheap} {Q : Option Value → pheap → Prop} (hk : mR k = some .int) (hg : Go d k pc ls st h Q) : Go d k pc ls st h (fun v H => (∃ z, v = some (.int z)) ∧ Q v H) := by
  obtain ⟨n, r, h', h1, h2⟩ := hg
  refine ⟨n, r, h', h1, ?_, h2⟩
  rcases xe_ret n d h pc ls st r h' h1 with ⟨z, y, -⟩ | ⟨z, -, y⟩ | y | y
  · exact ⟨z, y⟩
  · rw [hk] at y; cases y
  · rw [hk] at y; exact absurd y (by decide)
  · rw [hk] at y; cases y
theorem go_long {d k pc : Nat} {ls st : List Value} {h : pheap} {Q : Option Value → pheap → Prop} (hk : mR k = some .long) (hg : Go d k pc ls st h Q) : Go d k pc ls st h (fun v H => (∃ z, v = some (.long z)) ∧ Q v H) := by
  obtain ⟨n, r, h', h1, h2⟩ := hg
  refine ⟨n, r, h', h1, ?_, h2⟩
  rcases xe_ret n d h pc ls st r h' h1 with ⟨z, y, y2⟩ | ⟨z, y, -⟩ | y | y
  · rw [hk] at y2; exact absurd (show false = true from y2) (by decide)
  · exact ⟨z, y⟩
  · rw [hk] at y; exact absurd y (by decide)
  · rw [hk] at y; cases y
