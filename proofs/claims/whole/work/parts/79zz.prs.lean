/-! what is read: one item, then the rest -/
section
variable {fc : Nat → Nat} {fs : Nat → Int32} {os : Nat → Nat} {no : Nat} {f : Nat → Int32}
def fsL (fc : Nat → Nat) (fs : Nat → Int32) (rc : Nat) : List Int32 := (List.range (fc rc)).map (fun i => fs (6 * rc + i))
/-- which item it is -/
def PI (fc : Nat → Nat) (fs : Nat → Int32) (os : Nat → Nat) (no : Nat) (f : Nat → Int32) (n : Nat) (s : Int32) (t : List Int32) (p : Nat) (l : List Nat) (res : Nat × List Nat) : Prop :=
  (s = 0 ∧ prs fc fs os no f n t (p + 4) l = some res) ∨ ((s = 1 ∨ s = 2) ∧ prs fc fs os no f n t (p + 8) l = some res) ∨
  (s = 3 ∧ (f p = 0 ∨ f p = 1) ∧ prs fc fs os no f n t (p + 1) l = some res) ∨ (s = 4 ∧ f p = 255 ∧ prs fc fs os no f n t (p + 1) l = some res) ∨
  (s = 4 ∧ f p ≠ 255 ∧ f p ≤ 16 ∧ prs fc fs os no f n t (p + 1 + (f p).toNatClampNeg) l = some res) ∨
  ((¬ (s = 0 ∨ s = 1 ∨ s = 2 ∨ s = 3 ∨ s = 4)) ∧ ((20 ≤ s ∧ f p = 255 ∧ prs fc fs os no f n t (p + 1) l = some res) ∨
   (20 ≤ s ∧ f p ≠ 255 ∧ (f p).toNatClampNeg < no ∧ s = nI (20 + os (f p).toNatClampNeg) ∧ prs fc fs os no f n t (p + 1) l = some res) ∨
   (¬ 20 ≤ s ∧ f p = 255 ∧ prs fc fs os no f n t (p + 1) l = some res) ∨
   (¬ 20 ≤ s ∧ f p ≠ 255 ∧ f p = 254 ∧ l[(f (p + 1)).toNatClampNeg]? = some (s - 10).toNatClampNeg ∧ prs fc fs os no f n t (p + 2) l = some res) ∨
   (¬ 20 ≤ s ∧ f p ≠ 255 ∧ f p ≠ 254 ∧ f p = 253 ∧ l.length < 12 ∧ prs fc fs os no f n (fsL fc fs (s - 10).toNatClampNeg ++ t) (p + 1) (l ++ [(s - 10).toNatClampNeg]) = some res)))
theorem prs_inv {n : Nat} {s : Int32} {t : List Int32} {p : Nat} {l : List Nat} {res : Nat × List Nat} (h : prs fc fs os no f (n + 1) (s :: t) p l = some res) : PI fc fs os no f n s t p l res := by
  unfold PI fsL
  unfold prs at h
  by_cases h0 : s = 0
  · rw [if_pos h0] at h
    exact Or.inl ⟨h0, h⟩
  rw [if_neg h0] at h
  by_cases h1 : s = 1 ∨ s = 2
  · rw [if_pos h1] at h
    exact Or.inr (Or.inl ⟨h1, h⟩)
  rw [if_neg h1] at h
  by_cases h3 : s = 3
  · rw [if_pos h3] at h
    by_cases hb : f p = 0 ∨ f p = 1
    · rw [if_pos hb] at h
      exact Or.inr (Or.inr (Or.inl ⟨h3, hb, h⟩))
    · rw [if_neg hb] at h
      cases h
  rw [if_neg h3] at h
  by_cases h4 : s = 4
  · rw [if_pos h4] at h
    by_cases hb : f p = 255
    · rw [if_pos hb] at h
      exact Or.inr (Or.inr (Or.inr (Or.inl ⟨h4, hb, h⟩)))
    · rw [if_neg hb] at h
      by_cases hc : f p ≤ 16
      · rw [if_pos hc] at h
        exact Or.inr (Or.inr (Or.inr (Or.inr (Or.inl ⟨h4, hb, hc, h⟩))))
      · rw [if_neg hc] at h
        cases h
  rw [if_neg h4] at h
  have hno : ¬ (s = 0 ∨ s = 1 ∨ s = 2 ∨ s = 3 ∨ s = 4) := fun z => by
    rcases z with z | z | z | z | z
    · exact h0 z
    · exact h1 (Or.inl z)
    · exact h1 (Or.inr z)
    · exact h3 z
    · exact h4 z
  refine Or.inr (Or.inr (Or.inr (Or.inr (Or.inr ⟨hno, ?_⟩))))
  by_cases h20 : 20 ≤ s
  · rw [if_pos h20] at h
    by_cases hb : f p = 255
    · rw [if_pos hb] at h
      exact Or.inl ⟨h20, hb, h⟩
    · rw [if_neg hb] at h
      by_cases hc : (f p).toNatClampNeg < no ∧ s = nI (20 + os (f p).toNatClampNeg)
      · rw [if_pos hc] at h
        exact Or.inr (Or.inl ⟨h20, hb, hc.1, hc.2, h⟩)
      · rw [if_neg hc] at h
        cases h
  rw [if_neg h20] at h
  by_cases hb : f p = 255
  · rw [if_pos hb] at h
    exact Or.inr (Or.inr (Or.inl ⟨h20, hb, h⟩))
  rw [if_neg hb] at h
  by_cases hc : f p = 254
  · rw [if_pos hc] at h
    by_cases hd : l[(f (p + 1)).toNatClampNeg]? = some (s - 10).toNatClampNeg
    · rw [if_pos hd] at h
      exact Or.inr (Or.inr (Or.inr (Or.inl ⟨h20, hb, hc, hd, h⟩)))
    · rw [if_neg hd] at h
      cases h
  rw [if_neg hc] at h
  by_cases hd : f p = 253 ∧ l.length < 12
  · rw [if_pos hd] at h
    exact Or.inr (Or.inr (Or.inr (Or.inr ⟨h20, hb, hc, hd.1, hd.2, h⟩)))
  · rw [if_neg hd] at h
    cases h
theorem prs_of {n : Nat} {s : Int32} {t : List Int32} {p : Nat} {l : List Nat} {res : Nat × List Nat} (h : PI fc fs os no f n s t p l res) : prs fc fs os no f (n + 1) (s :: t) p l = some res := by
  unfold PI fsL at h
  unfold prs
  rcases h with ⟨h0, h⟩ | ⟨h1, h⟩ | ⟨h3, hb, h⟩ | ⟨h4, hb, h⟩ | ⟨h4, hb, hc, h⟩ | ⟨hno, h⟩
  · rw [if_pos h0]; exact h
  · rw [if_neg (fun z => by rw [z] at h1; rcases h1 with y | y <;> exact absurd y (by decide)), if_pos h1]; exact h
  · subst h3
    rw [if_neg (by decide), if_neg (by decide), if_pos rfl, if_pos hb]; exact h
  · subst h4
    rw [if_neg (by decide), if_neg (by decide), if_neg (by decide), if_pos rfl, if_pos hb]; exact h
  · subst h4
    rw [if_neg (by decide), if_neg (by decide), if_neg (by decide), if_pos rfl, if_neg hb, if_pos hc]; exact h
  · rw [if_neg (fun z => hno (Or.inl z)), if_neg (fun z => hno (z.elim (fun y => Or.inr (Or.inl y)) (fun y => Or.inr (Or.inr (Or.inl y))))), if_neg (fun z => hno (Or.inr (Or.inr (Or.inr (Or.inl z))))), if_neg (fun z => hno (Or.inr (Or.inr (Or.inr (Or.inr z)))))]
    rcases h with ⟨h20, hb, h⟩ | ⟨h20, hb, hc, hd, h⟩ | ⟨h20, hb, h⟩ | ⟨h20, hb, hc, hd, h⟩ | ⟨h20, hb, hc, hd, he, h⟩
    · rw [if_pos h20, if_pos hb]; exact h
    · rw [if_pos h20, if_neg hb, if_pos ⟨hc, hd⟩]; exact h
    · rw [if_neg h20, if_pos hb]; exact h
    · rw [if_neg h20, if_neg hb, if_pos hc, if_pos hd]; exact h
    · rw [if_neg h20, if_neg hb, if_neg hc, if_pos ⟨hd, he⟩]; exact h
/-- the items of a list are read, then the rest -/
theorem prs_split : ∀ n (ss t : List Int32) p l res, prs fc fs os no f n (ss ++ t) p l = some res → ∃ n1 p1 l1 n2, prs fc fs os no f n1 ss p l = some (p1, l1) ∧ n2 ≤ n ∧ (ss ≠ [] → n2 < n) ∧ prs fc fs os no f n2 t p1 l1 = some res
  | 0, ss, t, p, l, res, h => by
    unfold prs at h
    cases h
  | n + 1, [], t, p, l, res, h => ⟨1, p, l, n + 1, rfl, Nat.le_refl _, fun z => absurd rfl z, h⟩
  | n + 1, s :: ss, t, p, l, res, h => by
    have hi := prs_inv (n := n) (s := s) (t := ss ++ t) h
    have key : ∀ p' l' (ss' : List Int32), prs fc fs os no f n (ss' ++ t) p' l' = some res → (∀ n1 r1, prs fc fs os no f n1 ss' p' l' = some r1 → PI fc fs os no f n1 s ss p l r1) → ∃ n1 p1 l1 n2, prs fc fs os no f n1 (s :: ss) p l = some (p1, l1) ∧ n2 ≤ n + 1 ∧ (s :: ss ≠ [] → n2 < n + 1) ∧ prs fc fs os no f n2 t p1 l1 = some res := fun p' l' ss' h1 h2 => by
      obtain ⟨n1, p1, l1, n2, y1, y2, y3, y4⟩ := prs_split n ss' t p' l' res h1
      exact ⟨n1 + 1, p1, l1, n2, prs_of (h2 n1 _ y1), by omega, fun _ => by omega, y4⟩
    unfold PI at hi
    rcases hi with ⟨h0, h⟩ | ⟨h1, h⟩ | ⟨h3, hb, h⟩ | ⟨h4, hb, h⟩ | ⟨h4, hb, hc, h⟩ | ⟨hno, h⟩
    · exact key _ _ ss h (fun n1 r1 y => Or.inl ⟨h0, y⟩)
    · exact key _ _ ss h (fun n1 r1 y => Or.inr (Or.inl ⟨h1, y⟩))
    · exact key _ _ ss h (fun n1 r1 y => Or.inr (Or.inr (Or.inl ⟨h3, hb, y⟩)))
    · exact key _ _ ss h (fun n1 r1 y => Or.inr (Or.inr (Or.inr (Or.inl ⟨h4, hb, y⟩))))
    · exact key _ _ ss h (fun n1 r1 y => Or.inr (Or.inr (Or.inr (Or.inr (Or.inl ⟨h4, hb, hc, y⟩)))))
    · rcases h with ⟨h20, hb, h⟩ | ⟨h20, hb, hc, hd, h⟩ | ⟨h20, hb, h⟩ | ⟨h20, hb, hc, hd, h⟩ | ⟨h20, hb, hc, hd, he, h⟩
      · exact key _ _ ss h (fun n1 r1 y => Or.inr (Or.inr (Or.inr (Or.inr (Or.inr ⟨hno, Or.inl ⟨h20, hb, y⟩⟩)))))
      · exact key _ _ ss h (fun n1 r1 y => Or.inr (Or.inr (Or.inr (Or.inr (Or.inr ⟨hno, Or.inr (Or.inl ⟨h20, hb, hc, hd, y⟩)⟩)))))
      · exact key _ _ ss h (fun n1 r1 y => Or.inr (Or.inr (Or.inr (Or.inr (Or.inr ⟨hno, Or.inr (Or.inr (Or.inl ⟨h20, hb, y⟩))⟩)))))
      · exact key _ _ ss h (fun n1 r1 y => Or.inr (Or.inr (Or.inr (Or.inr (Or.inr ⟨hno, Or.inr (Or.inr (Or.inr (Or.inl ⟨h20, hb, hc, hd, y⟩)))⟩)))))
      · refine key _ _ (fsL fc fs (s - 10).toNatClampNeg ++ ss) (by rw [List.append_assoc]; exact h) (fun n1 r1 y => Or.inr (Or.inr (Or.inr (Or.inr (Or.inr ⟨hno, Or.inr (Or.inr (Or.inr (Or.inr ⟨h20, hb, hc, hd, he, y⟩)))⟩)))))
/-- nodes are but added -/
theorem prs_len : ∀ n (t : List Int32) p l q l', prs fc fs os no f n t p l = some (q, l') → l.length ≤ l'.length
  | 0, t, p, l, q, l', h => by
    unfold prs at h
    cases h
  | n + 1, [], p, l, q, l', h => by
    unfold prs at h
    cases h
    exact Nat.le_refl _
  | n + 1, s :: t, p, l, q, l', h => by
    have hi := prs_inv (n := n) (s := s) (t := t) h
    unfold PI at hi
    rcases hi with ⟨h0, h⟩ | ⟨h1, h⟩ | ⟨h3, hb, h⟩ | ⟨h4, hb, h⟩ | ⟨h4, hb, hc, h⟩ | ⟨hno, h⟩
    · exact prs_len n _ _ _ _ _ h
    · exact prs_len n _ _ _ _ _ h
    · exact prs_len n _ _ _ _ _ h
    · exact prs_len n _ _ _ _ _ h
    · exact prs_len n _ _ _ _ _ h
    · rcases h with ⟨h20, hb, h⟩ | ⟨h20, hb, hc, hd, h⟩ | ⟨h20, hb, h⟩ | ⟨h20, hb, hc, hd, h⟩ | ⟨h20, hb, hc, hd, he, h⟩
      · exact prs_len n _ _ _ _ _ h
      · exact prs_len n _ _ _ _ _ h
      · exact prs_len n _ _ _ _ _ h
      · exact prs_len n _ _ _ _ _ h
      · have := prs_len n _ _ _ _ _ h
        rw [List.length_append, List.length_singleton] at this
        omega
end
