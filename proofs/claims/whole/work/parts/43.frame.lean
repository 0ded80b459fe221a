/-! pointers -/
section
variable {K : Nat → pcell} {g : gS} {r : rS} {x : xS} {h : pheap}
theorem ref_dsk {x2 : Nat → Nat} {i j : Nat} (hi : i < (g.1 0 3)) (hj : j < 4) : Ref g x2 ((g.1 4) i + j) (9 + j, i) := by
  refine Or.inl ⟨i, hi, ?_⟩
  rcases j with _ | _ | _ | _ | j
  · exact Or.inl ⟨rfl, rfl⟩
  · exact Or.inr (Or.inl ⟨rfl, rfl⟩)
  · exact Or.inr (Or.inr (Or.inl ⟨rfl, rfl⟩))
  · exact Or.inr (Or.inr (Or.inr ⟨rfl, rfl⟩))
  · omega
theorem sim_cell (hs : Sim K g r x h) {p : Nat} {c : Nat × Nat} (hp : Ref g x.2 p c) : 146 ≤ p ∧ p < h.1 ∧ g.2.2.2 p = c ∧ Cell g r (x.2 0) p (h.2.2 p) := by
  obtain ⟨⟨h1, h2, h3, h4⟩, h5, h6, h7⟩ := hs
  obtain ⟨a1, a2, a3⟩ := h5.1 p c hp
  exact ⟨a1, a2, a3, h6 p a1 a2⟩
theorem sim_lst (hs : Sim K g r x h) {q : Nat} (h1 : 1 ≤ q) (h7 : q < 7) (hq : g.1 0 (q - 1) ≤ 60) : Lst x h (18 + q) q (g.1 0 (q - 1)) (g.1 q) := by
  have hr := @sim_cell _ _ _ _ _ hs (x.2 q) (4, q)
  obtain ⟨⟨s1, s2, s3, s4⟩, -, -, -, -, -, -, s5, -, -⟩ := hs
  obtain ⟨f1, f2⟩ := s5 q h1 h7
  by_cases hx : x.2 q = 1
  · have hz := f2 hx
    rw [hz] at f1
    unfold Lst
    rw [hz, hx, s3 1 (by omega), s2.1, s2.2.1]
    exact ⟨f1, by omega, Or.inl ⟨rfl, rfl⟩, by omega, rfl, by omega, by omega, fun i hi => absurd hi (by omega)⟩
  · obtain ⟨a1, a2, a3, a4⟩ := hr (Or.inr (Or.inr (Or.inr (Or.inr (Or.inr (Or.inr (Or.inr (Or.inl ⟨q, h1, h7, hx, rfl, rfl⟩))))))))
    obtain ⟨-, -, -, a4, -⟩ := a4
    rw [a3] at a4
    obtain ⟨b1, b2, b3, b4⟩ := a4 rfl
    exact ⟨f1, by omega, Or.inr a1, a2, b1, b2, by omega, b4⟩
theorem sim_dsk (hs : Sim K g r x h) {i : Nat} (hi : i < (g.1 0 3)) : 146 ≤ (g.1 4) i ∧ (g.1 4) i + 3 < h.1 ∧ cDsk ((g.1 4) i) i ((r.2.2.1 93) i) ((r.2.2.1 97) i) ((r.2.2.1 98) i) ((r.2.2.1 99) i) (h.2.2 ((g.1 4) i)) ∧ cInts 20 24 (fun k => (r.2.2.1 95) (24 * i + k)) (h.2.2 ((g.1 4) i + 1)) ∧ cInts 23 9 (fun k => if (r.2.2.1 94) (9 * i + k) = 0 then 1 else 0) (h.2.2 ((g.1 4) i + 2)) ∧ cInts 20 4 (fun k => (r.2.2.1 96) (4 * i + k)) (h.2.2 ((g.1 4) i + 3)) := by
  obtain ⟨a1, a2, a3, -, -, -, -, -, -, -, -, a4, -⟩ := sim_cell hs (ref_dsk (j := 0) hi (by omega))
  obtain ⟨b1, b2, b3, -, -, -, -, -, -, -, -, -, b4, -⟩ := sim_cell hs (ref_dsk (j := 1) hi (by omega))
  obtain ⟨c1, c2, c3, -, -, -, -, -, -, -, -, -, -, c4, -⟩ := sim_cell hs (ref_dsk (j := 2) hi (by omega))
  obtain ⟨d1, d2, d3, -, -, -, -, -, -, -, -, -, -, -, d4, -⟩ := sim_cell hs (ref_dsk (j := 3) hi (by omega))
  rw [a3] at a4
  rw [b3] at b4
  rw [c3] at c4
  rw [d3] at d4
  exact ⟨a1, d2, a4 rfl, b4 rfl, c4 rfl, d4 rfl⟩
end
