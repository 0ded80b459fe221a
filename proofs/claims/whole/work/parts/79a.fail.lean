/-! FAIL: a failure and those below it, in their order -/
section
variable {K : Nat → pcell} {tb : Nat} {g g' : gS} {r r' r0 : rS} {x x' : xS} {h h' : pheap} {a n k m i j c p q d A M f N : Nat} {Q : Option Value → pheap → Prop} {T : Nat → Nat} {R : Nat → Nat → Int32} {F : Nat → Int32}
def fbG (g : gS) (L : Nat → List Nat) (f : Nat) : Nat → List Nat
  | 0 => []
  | k + 1 => fbG g L f k ++ L ((g.2.2.2.2.2 25) (2 * f + k))
def fl (g : gS) : Nat → Nat → List Nat
  | 0, _ => []
  | N + 1, f => f :: ((if (g.2.2.2.2.2 24) f = 0 then [] else fl g N ((g.2.2.2.2.2 24) f - 1)) ++ fbG g (fl g N) f ((g.2.2.2.2.2 26) f))
/-- rows are written, from row p on -/
def WL (R : Nat → Nat → Int32) : (Nat → Int32) → Nat → List Nat → Nat → Int32
  | F, _, [] => F
  | F, p, f :: l => WL R (wrF F (R f) (5 * p) 5) (p + 1) l
theorem WL_a : ∀ l l' F p, WL R F p (l ++ l') = WL R (WL R F p l) (p + l.length) l'
  | [], l', F, p => rfl
  | f :: l, l', F, p => by
    show WL R (wrF F (R f) (5 * p) 5) (p + 1) (l ++ l') = _
    rw [WL_a l l' _ (p + 1), List.length_cons, show p + 1 + l.length = p + (l.length + 1) by omega]
    rfl
theorem WL_lo : ∀ l F p k, k < 5 * p → WL R F p l k = F k
  | [], F, p, k, hk => rfl
  | f :: l, F, p, k, hk => by
    show WL R (wrF F (R f) (5 * p) 5) (p + 1) l k = _
    rw [WL_lo l _ (p + 1) k (by omega)]
    exact wrF_o _ _ (Or.inl hk)
theorem WL_at : ∀ l F p j k, (hj : j < l.length) → k < 5 → WL R F p l (5 * (p + j) + k) = R (l[j]'hj) k
  | [], F, p, j, k, hj, hk => absurd hj (Nat.not_lt_zero j)
  | f :: l, F, p, 0, k, hj, hk => by
    show WL R (wrF F (R f) (5 * p) 5) (p + 1) l (5 * (p + 0) + k) = R f k
    rw [WL_lo l _ (p + 1) _ (by omega), Nat.add_zero]
    exact wrF_i _ _ hk
  | f :: l, F, p, j + 1, k, hj, hk => by
    show WL R (wrF F (R f) (5 * p) 5) (p + 1) l (5 * (p + (j + 1)) + k) = _
    have := WL_at l (wrF F (R f) (5 * p) 5) (p + 1) j k (by rw [List.length_cons] at hj; omega) hk
    rw [show p + (j + 1) = p + 1 + j by omega, this]
    rfl
theorem fb_len (hL : ∀ k, k < (g.2.2.2.2.2 26) f → (fl g N ((g.2.2.2.2.2 25) (2 * f + k))).length = T ((g.2.2.2.2.2 25) (2 * f + k))) : ∀ k, k ≤ (g.2.2.2.2.2 26) f → (fbG g (fl g N) f k).length = sB g T f k
  | 0, _ => rfl
  | k + 1, hk => by
    show (fbG g (fl g N) f k ++ fl g N ((g.2.2.2.2.2 25) (2 * f + k))).length = sB g T f k + T ((g.2.2.2.2.2 25) (2 * f + k))
    rw [List.length_append, fb_len hL k (by omega), hL k (by omega)]
theorem fl_len (hf : Fst g) (hT : Tsz g T) : ∀ N f, f < N → f < (g.1 0 2) → (fl g N f).length = T f
  | 0, f, h1, _ => absurd h1 (Nat.not_lt_zero f)
  | N + 1, f, h1, h2 => by
    obtain ⟨f1, f2, f3⟩ := hf f h2
    have hB := fb_len (g := g) (f := f) (N := N) (T := T) (fun k hk => by have := f3 k hk; exact fl_len hf hT N _ (by omega) (by omega)) ((g.2.2.2.2.2 26) f) (Nat.le_refl _)
    rw [hT f h2]
    show ((if (g.2.2.2.2.2 24) f = 0 then [] else fl g N ((g.2.2.2.2.2 24) f - 1)) ++ fbG g (fl g N) f ((g.2.2.2.2.2 26) f)).length + 1 = _
    rw [List.length_append, hB]
    by_cases hz : (g.2.2.2.2.2 24) f = 0
    · rw [if_pos hz, if_pos hz]
      show 0 + _ + 1 = _
      omega
    · rw [if_neg hz, if_neg hz, fl_len hf hT N ((g.2.2.2.2.2 24) f - 1) (by omega) (by omega)]
      omega
/-- the row of a failure -/
def rwF (g : gS) (r : rS) (i : Nat) (f k : Nat) : Int32 := if k = 0 then (r.2.2.1 108) f else if k = 1 then (r.2.2.1 109) f else if k = 2 then nI i else if k = 3 then (if (g.2.2.2.2.2 24) f = 0 then 0 else 1) else nI ((g.2.2.2.2.2 26) f)
theorem up_i (F : Nat → Int32) (k : Nat) (v : Int32) : updV (fun j => Value.int (F j)) k (.int v) = fun j => Value.int (upN F k v j) := funext fun j => by
  by_cases e : j = k
  · subst e; rw [uv_s, upN_s]
  · rw [uv_o _ _ e, upN_n _ _ e]
theorem rw_5 {G : Nat → Int32} : upN (upN (upN (upN (upN F (5 * p) (G 0)) (5 * p + 1) (G 1)) (5 * p + 2) (G 2)) (5 * p + 3) (G 3)) (5 * p + 4) (G 4) = wrF F G (5 * p) 5 := by
  have f0 := wrF_u F G (5 * p) 0
  have f1 := wrF_u F G (5 * p) 1
  have f2 := wrF_u F G (5 * p) 2
  have f3 := wrF_u F G (5 * p) 3
  have f4 := wrF_u F G (5 * p) 4
  rw [wrF_0, Nat.add_zero] at f0
  rw [← f4, ← f3, ← f2, ← f1, ← f0]
def hI (h : pheap) (A : Nat) (F : Nat → Int32) : pheap := hC h A (fun k => .int (F k))
theorem hI_set {v : Int32} : hset (hI h A F) A k (.int v) = hI h A (upN F k v) := by
  unfold hI
  rw [hset_C, up_i]
end
