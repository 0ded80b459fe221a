section
variable {fc : Nat → Nat} {fs : Nat → Int32} {os : Nat → Nat} {no : Nat} {f : Nat → Int32}
theorem prs_12 : ∀ n (t : List Int32) p (l : List Nat) q l', prs fc fs os no f n t p l = some (q, l') → l.length ≤ 12 → l'.length ≤ 12
  | 0, t, p, l, q, l', h, _ => by
    unfold prs at h
    cases h
  | n + 1, [], p, l, q, l', h, h12 => by
    unfold prs at h
    cases h
    exact h12
  | n + 1, s :: t, p, l, q, l', h, h12 => by
    have hi := prs_inv (n := n) (s := s) (t := t) h
    unfold PI at hi
    rcases hi with ⟨h0, h⟩ | ⟨h1, h⟩ | ⟨h3, hb, h⟩ | ⟨h4, hb, h⟩ | ⟨h4, hb, hc, h⟩ | ⟨hno, h⟩
    · exact prs_12 n _ _ _ _ _ h h12
    · exact prs_12 n _ _ _ _ _ h h12
    · exact prs_12 n _ _ _ _ _ h h12
    · exact prs_12 n _ _ _ _ _ h h12
    · exact prs_12 n _ _ _ _ _ h h12
    · rcases h with ⟨h20, hb, h⟩ | ⟨h20, hb, hc, hd, h⟩ | ⟨h20, hb, h⟩ | ⟨h20, hb, hc, hd, h⟩ | ⟨h20, hb, hc, hd, he, h⟩
      · exact prs_12 n _ _ _ _ _ h h12
      · exact prs_12 n _ _ _ _ _ h h12
      · exact prs_12 n _ _ _ _ _ h h12
      · exact prs_12 n _ _ _ _ _ h h12
      · exact prs_12 n _ _ _ _ _ h (by rw [List.length_append, List.length_singleton]; omega)
/-- the sorts of a record's fields from k on -/
def flT (fs : Nat → Int32) (rc : Nat) : Nat → Nat → List Int32
  | _, 0 => []
  | k, j + 1 => fs (6 * rc + k) :: flT fs rc (k + 1) j
theorem flT_r (rc : Nat) : ∀ j k, (List.range' k j).map (fun i => fs (6 * rc + i)) = flT fs rc k j
  | 0, k => rfl
  | j + 1, k => by
    rw [List.range'_succ, List.map_cons, flT_r rc j (k + 1)]
    rfl
theorem fsL_T {rc : Nat} : fsL fc fs rc = flT fs rc 0 (fc rc) := by
  unfold fsL
  rw [List.range_eq_range', flT_r]
end
