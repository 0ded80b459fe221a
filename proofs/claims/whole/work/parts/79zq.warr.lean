section
variable {K : Nat → pcell} {tb : Nat} {g g' g1 g2 g0 : gS} {r r' r0 r1 r2 s s' : rS} {x x' x1 x2 xb : xS} {h h' h1 h2 h0 : pheap} {a n k m i j c p q d A o b w z kp Z : Nat} {Q : Option Value → pheap → Prop} {e v nt : Int32} {f F : Nat → Int32} {B O S : Nat → Nat} {O' B' S' G' : Nat → Int32}
def icR (r : rS) (O' B' S' G' : Nat → Int32) : rS := sR (sR (sR (sR r 143 O') 144 B') 142 S') 141 G'
theorem w_ic (hw : World K tb g r x h) (hS : Sim K (icG g B O S) (icR r O' B' S' G') x h') (hwl : w < 2) (hc : c < (g.1 0 5)) (hrem : (g.2.2.2.2.2 14) c ≠ (g.2.2.2.2.2 15) c) (hic : (g.2.2.2.2.2 23) (60 * w + c) ≠ 0)
    (hB : ∀ i, i ≠ 60 * w + c → B i = (g.2.2.2.2.2 31) i) (hO : ∀ i, i ≠ 60 * w + c → O i = (g.2.2.2.2.2 30) i) (hB' : ∀ i, i ≠ 60 * w + c → B' i = (r.2.2.1 144) i) (hO' : ∀ i, i ≠ 60 * w + c → O' i = (r.2.2.1 143) i) (hBj : B' (60 * w + c) = nI (B (60 * w + c)) ∧ B (60 * w + c) < 1024) (hOj : O' (60 * w + c) = nI (O (60 * w + c)) ∧ O (60 * w + c) ≤ 10)
    (hSz : ∀ i p, i < 120 → p < 10 → S' (10 * i + p) = nI (S (10 * i + p)) ∧ S (10 * i + p) ≤ 24) (hSo : ∀ i p, i ≠ 60 * w + c → p < 10 → S (10 * i + p) = (g.2.2.2.2.2 29) (10 * i + p)) (hG : ∀ i k, i ≠ 60 * w + c → k < 240 → G' (240 * i + k) = (r.2.2.1 141) (240 * i + k))
    (hp0 : w = 0 → gotP (B c) (O c) ((g.2.2.2.2.2 33) c) (fun p => S (10 * c + p)) (fun k => G' (240 * c + k)) (fun k => (r.2.2.1 123) (240 * c + k)))
    (hp1 : w = 1 → gotP (B (60 + c)) (O (60 + c)) ((g.2.2.2.2.2 34) c) (fun p => S (10 * (60 + c) + p)) (fun k => G' (240 * (60 + c) + k)) (fun k => (r.2.2.1 127) (240 * c + k)) ∧ (B (60 + c) ≠ 0 → (g.2.2.2.2.2 34) c ≠ 0)) : World K tb (icG g B O S) (icR r O' B' S' G') x h' := by
  have hn60 := (w_nc hw).2.1
  obtain ⟨-, ⟨i1, i2, i3, i4, i5, i6, i7, i8, i9, i10⟩, ⟨m1, m2, m3, m4, m5⟩⟩ := hw
  have gp_c : ∀ {Bx Ox Zx : Nat} {sx sx' : Nat → Nat} {gx gx' Fx : Nat → Int32}, (∀ p, p < 10 → sx' p = sx p) → (∀ k, k < 240 → gx' k = gx k) → Ox ≤ 10 → gotP Bx Ox Zx sx gx Fx → gotP Bx Ox Zx sx' gx' Fx := fun h1 h2 h3 h4 hb => by
    obtain ⟨y1, y2, y3, y4⟩ := h4 hb
    refine ⟨y1, y2, y3, fun p hp hbp => ?_⟩
    obtain ⟨w1, w2⟩ := y4 p hp hbp
    refine ⟨(h1 p (by omega)).trans w1, fun k hk => ?_⟩
    rw [h2 _ (by unfold cS at hk; omega)]
    exact w2 k hk
  refine ⟨hS, ⟨i1, i2, i3, i4, i5, i6, i7, i8, i9, ⟨i10.1, fun c' hc' w' hw' => ?_⟩⟩, ⟨m1, ⟨hSz, fun c' hc' => ?_⟩, m3, m4, m5⟩⟩
  · obtain ⟨y1, y2, y3⟩ := i10.2 c' hc' w' hw'
    refine ⟨y1, fun z1 z2 => ?_, fun z => ?_⟩
    · by_cases e : 60 * w' + c' = 60 * w + c
      · rw [e] at z1
        exact absurd z1 hic
      · show B (60 * w' + c') = 0
        rw [hB _ e]
        exact y2 z1 z2
    · by_cases e : 60 * w' + c' = 60 * w + c
      · rw [e]
        exact ⟨hBj.1, hBj.2, hOj.1, hOj.2⟩
      · show B' (60 * w' + c') = nI (B (60 * w' + c')) ∧ B (60 * w' + c') < 1024 ∧ O' (60 * w' + c') = nI (O (60 * w' + c')) ∧ O (60 * w' + c') ≤ 10
        rw [hB _ e, hO _ e, hB' _ e, hO' _ e]
        exact y3 z
  · obtain ⟨y1, y2, y3, y4⟩ := m2.2 c' hc'
    have hc60 : c' < 60 := by
      have : c' < (g.1 0 5) := hc'
      omega
    have ho0 : (g.2.2.2.2.2 30) c' ≤ 10 := by
      have := (i10.2 c' hc60 0 (by omega)).2.2 hc'
      simp only [Nat.mul_zero, Nat.zero_add] at this
      exact this.2.2.2
    have ho1 : (g.2.2.2.2.2 30) (60 + c') ≤ 10 := by
      have := (i10.2 c' hc60 1 (by omega)).2.2 hc'
      simp only [Nat.mul_one] at this
      exact this.2.2.2
    show ((g.2.2.2.2.2 14) c' = (g.2.2.2.2.2 15) c' → B c' = 0 ∧ B (60 + c') = 0) ∧ gotP (B c') (O c') ((g.2.2.2.2.2 33) c') (fun p => S (10 * c' + p)) (fun k => G' (240 * c' + k)) (fun k => (r.2.2.1 123) (240 * c' + k)) ∧ gotP (B (60 + c')) (O (60 + c')) ((g.2.2.2.2.2 34) c') (fun p => S (10 * (60 + c') + p)) (fun k => G' (240 * (60 + c') + k)) (fun k => (r.2.2.1 127) (240 * c' + k)) ∧ (B (60 + c') ≠ 0 → (g.2.2.2.2.2 34) c' ≠ 0)
    obtain rfl | rfl : w = 0 ∨ w = 1 := by omega
    · simp only [Nat.mul_zero, Nat.zero_add] at *
      have e1 : 60 + c' ≠ c := by omega
      refine ⟨fun z => ?_, ?_, ?_, ?_⟩
      · have e0 : c' ≠ c := fun y => hrem (by rw [← y]; exact z)
        rw [hB _ e0, hB _ e1]
        exact y1 z
      · by_cases e0 : c' = c
        · rw [e0]
          exact hp0 trivial
        · rw [hB _ e0, hO _ e0]
          exact gp_c (fun p hp => hSo c' p e0 hp) (fun k hk => hG c' k e0 hk) ho0 y2
      · rw [hB _ e1, hO _ e1]
        exact gp_c (fun p hp => hSo _ p e1 hp) (fun k hk => hG _ k e1 hk) ho1 y3
      · rw [hB _ e1]
        exact y4
    · simp only [Nat.mul_one] at *
      have e1 : c' ≠ 60 + c := by omega
      refine ⟨fun z => ?_, ?_, ?_, ?_⟩
      · have e0 : 60 + c' ≠ 60 + c := fun y => hrem (by rw [show c = c' by omega]; exact z)
        rw [hB _ e0, hB _ e1]
        exact y1 z
      · rw [hB _ e1, hO _ e1]
        exact gp_c (fun p hp => hSo _ p e1 hp) (fun k hk => hG _ k e1 hk) ho0 y2
      · by_cases e0 : c' = c
        · rw [e0]
          exact (hp1 trivial).1
        · have e2 : 60 + c' ≠ 60 + c := by omega
          rw [hB _ e2, hO _ e2]
          exact gp_c (fun p hp => hSo _ p e2 hp) (fun k hk => hG _ k e2 hk) ho1 y3
      · by_cases e0 : c' = c
        · rw [e0]
          exact (hp1 trivial).2
        · have e2 : 60 + c' ≠ 60 + c := by omega
          rw [hB _ e2]
          exact y4
end
