/-! pointers -/
section
variable {K : Nat → pcell} {g : gS} {r : rS} {x : xS} {h : pheap}
theorem ref_d0 {x2 : Nat → Nat} {i : Nat} (hi : i < (g.1 0 3)) : Ref0 g x2 ((g.1 4) i) (9, i) := Or.inl ⟨i, hi, Or.inl ⟨rfl, rfl⟩⟩
theorem ref_d1 {x2 : Nat → Nat} {i : Nat} (hi : i < (g.1 0 3)) : Ref0 g x2 ((g.1 4) i + 1) (10, i) := Or.inl ⟨i, hi, Or.inr (Or.inl ⟨rfl, rfl⟩)⟩
theorem ref_d2 {x2 : Nat → Nat} {i : Nat} (hi : i < (g.1 0 3)) : Ref0 g x2 ((g.1 4) i + 2) (11, i) := Or.inl ⟨i, hi, Or.inr (Or.inr (Or.inl ⟨rfl, rfl⟩))⟩
theorem ref_d3 {x2 : Nat → Nat} {i : Nat} (hi : i < (g.1 0 3)) : Ref0 g x2 ((g.1 4) i + 3) (12, i) := Or.inl ⟨i, hi, Or.inr (Or.inr (Or.inr ⟨rfl, rfl⟩))⟩
theorem ref_thg {x2 : Nat → Nat} {i : Nat} (hi : i < (g.1 0 4)) : Ref0 g x2 ((g.1 5) i) (13, i) := Or.inr (Or.inl (⟨i, hi, rfl, rfl⟩))
theorem ref_nod {x2 : Nat → Nat} {i : Nat} (hi : i < (g.1 0 1)) : Ref0 g x2 ((g.1 2) i) (5, i) := Or.inr (Or.inr (Or.inl (⟨i, hi, Or.inl ⟨rfl, rfl⟩⟩)))
theorem ref_nfl {x2 : Nat → Nat} {i : Nat} (hi : i < (g.1 0 1)) : Ref0 g x2 ((g.1 2) i + 1) (6, i) := Or.inr (Or.inr (Or.inl (⟨i, hi, Or.inr (Or.inl ⟨rfl, rfl⟩)⟩)))
theorem ref_fld {x2 : Nat → Nat} {i k : Nat} (hi : i < (g.1 0 1)) (hk : k < (g.2.2.2.2.2 8) ((g.2.2.2.2.2 11) i)) : Ref0 g x2 ((g.2.2.2.2.2 7) (6 * i + k)) (1, 0) := Or.inr (Or.inr (Or.inl (⟨i, hi, Or.inr (Or.inr ⟨k, hk, rfl, rfl⟩)⟩)))
theorem ref_fai {x2 : Nat → Nat} {i : Nat} (hi : i < (g.1 0 2)) : Ref0 g x2 ((g.1 3) i) (7, i) := Or.inr (Or.inr (Or.inr (Or.inl (⟨i, hi, Or.inl ⟨rfl, rfl⟩⟩))))
theorem ref_fbs {x2 : Nat → Nat} {i : Nat} (hi : i < (g.1 0 2)) : Ref0 g x2 ((g.1 3) i + 1) (8, i) := Or.inr (Or.inr (Or.inr (Or.inl (⟨i, hi, Or.inr ⟨rfl, rfl⟩⟩))))
theorem ref_hnd {x2 : Nat → Nat} {i : Nat} (hi : i < (g.1 0 0)) : Ref0 g x2 ((g.1 1) i) (1, 0) := Or.inr (Or.inr (Or.inr (Or.inr (Or.inl (⟨i, hi, rfl, rfl⟩)))))
theorem ref_cal {x2 : Nat → Nat} {i : Nat} (hi : i < (g.1 0 5)) : Ref0 g x2 ((g.1 6) i) (14, i) := Or.inr (Or.inr (Or.inr (Or.inr (Or.inr (Or.inl (⟨i, hi, Or.inl ⟨rfl, rfl⟩⟩))))))
theorem ref_rq {x2 : Nat → Nat} {i : Nat} (hi : i < (g.1 0 5)) (hz : (g.2.2.2.2.2 19) i ≠ 0) : Ref0 g x2 ((g.2.2.2.2.2 19) i) (2, 0) := Or.inr (Or.inr (Or.inr (Or.inr (Or.inr (Or.inl (⟨i, hi, Or.inr (Or.inl ⟨hz, rfl, rfl⟩)⟩))))))
theorem ref_sh {x2 : Nat → Nat} {i : Nat} (hi : i < (g.1 0 5)) (hz : (g.2.2.2.2.2 20) i ≠ 0) : Ref0 g x2 ((g.2.2.2.2.2 20) i) (2, 0) := Or.inr (Or.inr (Or.inr (Or.inr (Or.inr (Or.inl (⟨i, hi, Or.inr (Or.inr (Or.inl ⟨hz, rfl, rfl⟩))⟩))))))
theorem ref_vl {x2 : Nat → Nat} {i : Nat} (hi : i < (g.1 0 5)) (hz : (g.2.2.2.2.2 21) i ≠ 0) : Ref0 g x2 ((g.2.2.2.2.2 21) i) (1, 0) := Or.inr (Or.inr (Or.inr (Or.inr (Or.inr (Or.inl (⟨i, hi, Or.inr (Or.inr (Or.inr (Or.inl ⟨hz, rfl, rfl⟩)))⟩))))))
theorem ref_tr {x2 : Nat → Nat} {i : Nat} (hi : i < (g.1 0 5)) (hz : (g.2.2.2.2.2 22) i ≠ 0) : Ref0 g x2 ((g.2.2.2.2.2 22) i) (3, 0) := Or.inr (Or.inr (Or.inr (Or.inr (Or.inr (Or.inl (⟨i, hi, Or.inr (Or.inr (Or.inr (Or.inr ⟨hz, rfl, rfl⟩)))⟩))))))
theorem ref_inc {x2 : Nat → Nat} {i : Nat} (hi : i < 120 ∧ (g.2.2.2.2.2 23) i ≠ 0) : Ref0 g x2 ((g.2.2.2.2.2 23) i) (15, i) := Or.inr (Or.inr (Or.inr (Or.inr (Or.inr (Or.inr (Or.inl (⟨i, hi.1, hi.2, Or.inl ⟨rfl, rfl⟩⟩)))))))
theorem ref_ihe {x2 : Nat → Nat} {i : Nat} (hi : i < 120 ∧ (g.2.2.2.2.2 23) i ≠ 0) : Ref0 g x2 ((g.2.2.2.2.2 23) i + 1) (16, i) := Or.inr (Or.inr (Or.inr (Or.inr (Or.inr (Or.inr (Or.inl (⟨i, hi.1, hi.2, Or.inr (Or.inl ⟨rfl, rfl⟩)⟩)))))))
theorem ref_iby {x2 : Nat → Nat} {i : Nat} (hi : i < 120 ∧ (g.2.2.2.2.2 23) i ≠ 0) : Ref0 g x2 ((g.2.2.2.2.2 23) i + 2) (17, i) := Or.inr (Or.inr (Or.inr (Or.inr (Or.inr (Or.inr (Or.inl (⟨i, hi.1, hi.2, Or.inr (Or.inr ⟨rfl, rfl⟩)⟩)))))))
theorem ref_el {x2 : Nat → Nat} {q : Nat} (h1 : 1 ≤ q) (h7 : q < 7) (hx : x2 q ≠ 1) : Ref0 g x2 (x2 q) (4, q) := Or.inr (Or.inr (Or.inr (Or.inr (Or.inr (Or.inr (Or.inr (Or.inl (⟨q, h1, h7, hx, rfl, rfl⟩))))))))
theorem ref_bk {x2 : Nat → Nat} {j : Nat} (hj : j < 11) (hx : x2 0 ≠ 7) : Ref0 g x2 (x2 0 + j) (18, j) := Or.inr (Or.inr (Or.inr (Or.inr (Or.inr (Or.inr (Or.inr (Or.inr ((⟨j, hj, hx, rfl, rfl⟩)))))))))
theorem sim_cell (hs : Sim K g r x h) {p : Nat} {c : Nat × Nat} (hp : Ref0 g x.2 p c) : 146 ≤ p ∧ p < h.1 ∧ g.2.2.2.1 p = c ∧ Cell g r (x.2 0) p (h.2.2 p) := by
  obtain ⟨⟨h1, h2, h3, h4⟩, h5, h6, h7⟩ := hs
  obtain ⟨a1, a2, a3⟩ := h5.1 p c hp
  exact ⟨a1, a2, a3, h6 p a1 a2⟩
theorem sim_lst (hs : Sim K g r x h) {q : Nat} (h1 : 1 ≤ q) (h7 : q < 7) (hq : g.1 0 (q - 1) ≤ 60) : Lst x h (18 + q) q (g.1 0 (q - 1)) (g.1 q) := by
  have hr := @sim_cell _ _ _ _ _ hs (x.2 q) (4, q)
  obtain ⟨⟨s1, s2, s3, s4⟩, -, -, -, -, -, -, s5, -, -⟩ := hs
  obtain ⟨f1, f2⟩ := s5 q h1 h7
  by_cases hx : x.2 q = 1
  · have hz := f2 hx
    rw [hz] at f1
    unfold Lst
    rw [hz, hx, s3 1 (by omega), s2.1, s2.2.1]
    exact ⟨f1, by omega, Or.inl ⟨rfl, rfl⟩, by omega, rfl, by omega, by omega, fun i hi => absurd hi (by omega)⟩
  · obtain ⟨a1, a2, a3, a4⟩ := hr (ref_el h1 h7 hx)
    obtain ⟨-, -, -, a4, -⟩ := a4
    rw [a3] at a4
    obtain ⟨b1, b2, b3, b4⟩ := a4 rfl
    exact ⟨f1, by omega, Or.inr a1, a2, b1, b2, by omega, b4⟩
end
