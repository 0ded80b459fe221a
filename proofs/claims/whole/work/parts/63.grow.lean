section
variable {K : Nat → pcell} {tb : Nat} {g g' g0 : gS} {r r' r0 : rS} {x x' : xS} {h h' : pheap} {d : Nat} {Q : Option Value → pheap → Prop} {a n : Nat}
theorem ref_c0 {x2 : Nat → Nat} {p : Nat} {c : Nat × Nat} (hr : Ref0 g x2 p c) : c.1 ≠ 0 := by
  rcases hr with ⟨i, -, (⟨-, rfl⟩ | ⟨-, rfl⟩ | ⟨-, rfl⟩ | ⟨-, rfl⟩)⟩ | ⟨i, -, -, rfl⟩ | ⟨i, -, (⟨-, rfl⟩ | ⟨-, rfl⟩ | ⟨k, -, -, rfl⟩)⟩ | ⟨i, -, (⟨-, rfl⟩ | ⟨-, rfl⟩)⟩ | ⟨k, -, -, rfl⟩ | ⟨k, -, (⟨-, rfl⟩ | ⟨-, -, rfl⟩ | ⟨-, -, rfl⟩ | ⟨-, -, rfl⟩ | ⟨-, -, rfl⟩)⟩ | ⟨k, -, -, (⟨-, rfl⟩ | ⟨-, rfl⟩ | ⟨-, rfl⟩)⟩ | ⟨q, -, -, -, -, rfl⟩ | ⟨j, -, -, -, rfl⟩
  all_goals exact fun z => Nat.noConfusion z
theorem cell_ro {xb b : Nat} {c : pcell} (h1 : g'.1 = g.1) (h2 : g'.2.1 b = g.2.1 b) (h3 : g'.2.2.1 b = g.2.2.1 b) (h4 : g'.2.2.2.1 b = g.2.2.2.1 b) (h5 : g'.2.2.2.2 = g.2.2.2.2) (hc : Cell g r xb b c) : Cell g' r xb b c := by
  unfold Cell at hc ⊢
  rw [h1, h2, h3, h4, h5]
  exact hc
theorem gR_s (g : gS) (a : Nat) (c : Nat × Nat) : (gR g a c).2.2.2.1 a = c := upN_s _ _ _
theorem gR_n (g : gS) {a b : Nat} (c : Nat × Nat) (hb : b ≠ a) : (gR g a c).2.2.2.1 b = g.2.2.2.1 b := upN_n _ _ hb
theorem tR_n (x : xS) {q k : Nat} (v : Nat) (hk : k ≠ q) : (tR x q v).2 k = x.2 k := upN_n _ _ hk
theorem tR_s (x : xS) (q v : Nat) : (tR x q v).2 q = v := upN_s _ _ _
theorem sim_grow (hs : Sim K g r x h) {q c : Nat} {f : Nat → Value} (h1 : 1 ≤ q) (h7 : q < 7) (hc : g.1 0 (q - 1) ≤ c ∧ 1 ≤ c ∧ c ≤ 100) (hf : ∀ k, k < g.1 0 (q - 1) → f k = .ref (g.1 q k)) : Sim K (gR (gR g (x.2 q) (0, 0)) h.1 (4, q)) r (tR x q h.1) (hnew h 24 c f) := by
  have hel := @sim_cell _ _ _ _ _ hs (x.2 q) (4, q)
  obtain ⟨⟨a1, a2, a3, a4⟩, pf, hC, bk, vr, kp, ft, fl, fw, fx⟩ := hs
  have hxq : x.2 q < h.1 ∧ (x.2 q < 146 ∨ g.2.2.2.1 (x.2 q) = (4, q)) := by
    by_cases hx : x.2 q = 1
    · exact ⟨by omega, Or.inl (by omega)⟩
    · obtain ⟨e1, e2, e3, -⟩ := hel (ref_el h1 h7 hx)
      exact ⟨e2, Or.inr e3⟩
  have hro : ∀ b, b ≠ h.1 → b ≠ x.2 q → (gR (gR g (x.2 q) (0, 0)) h.1 (4, q)).2.2.2.1 b = g.2.2.2.1 b := fun b h1 h2 => by rw [gR_n _ _ h1, gR_n _ _ h2]
  have hz : (gR (gR g (x.2 q) (0, 0)) h.1 (4, q)).2.2.2.1 (x.2 q) = (0, 0) := by rw [gR_n _ _ (by omega), gR_s]
  have htr : ∀ p c', okP g.2.2.2.1 h.1 p c' → c' ≠ (4, q) → okP (gR (gR g (x.2 q) (0, 0)) h.1 (4, q)).2.2.2.1 (hnew h 24 c f).1 p c' := fun p c' ⟨e1, e2, e3⟩ hne => by
    refine ⟨e1, by rw [hn_1]; omega, ?_⟩
    rw [hro p (by omega) (fun z => ?_)]
    · exact e3
    · rcases hxq.2 with u | u
      · omega
      · rw [← z, e3] at u
        exact hne u
  have h0 : (tR x q h.1).2 0 = x.2 0 := tR_n _ _ (by omega)
  refine ⟨⟨by rw [hn_1]; omega, a2, lo_new a3 a1, fun b hb => ?_⟩, ⟨fun p c' hp => ?_, fun b b1 b2 => ?_, fun b hb => ?_⟩, fun b b1 b2 => ?_, ?_, vr, kp, ft, fun q' q1 q2 => ⟨(fl q' q1 q2).1, fun z => ?_⟩, fw, fx⟩
  · rw [hn_1] at hb
    by_cases e : b = x.2 q
    · rw [e, hz]
    · rw [hro b (by omega) e]
      exact a4 b (by omega)
  · rcases hp with hp | hp | hp | hp | hp | hp | hp | ⟨q', q1, q2, q3, rfl, rfl⟩ | ⟨j, j1, j2, rfl, rfl⟩
    · refine htr p c' (pf.1 p c' (Or.inl hp)) (fun z => ?_)
      obtain ⟨i, -, (⟨-, y⟩ | ⟨-, y⟩ | ⟨-, y⟩ | ⟨-, y⟩)⟩ := hp <;> rw [z] at y <;> cases y
    · refine htr p c' (pf.1 p c' (Or.inr (Or.inl hp))) (fun z => ?_)
      obtain ⟨i, -, -, y⟩ := hp
      rw [z] at y; cases y
    · refine htr p c' (pf.1 p c' (Or.inr (Or.inr (Or.inl hp)))) (fun z => ?_)
      obtain ⟨i, -, (⟨-, y⟩ | ⟨-, y⟩ | ⟨k, -, -, y⟩)⟩ := hp <;> rw [z] at y <;> cases y
    · refine htr p c' (pf.1 p c' (Or.inr (Or.inr (Or.inr (Or.inl hp))))) (fun z => ?_)
      obtain ⟨i, -, (⟨-, y⟩ | ⟨-, y⟩)⟩ := hp <;> rw [z] at y <;> cases y
    · refine htr p c' (pf.1 p c' (Or.inr (Or.inr (Or.inr (Or.inr (Or.inl hp)))))) (fun z => ?_)
      obtain ⟨i, -, -, y⟩ := hp
      rw [z] at y; cases y
    · refine htr p c' (pf.1 p c' (Or.inr (Or.inr (Or.inr (Or.inr (Or.inr (Or.inl hp))))))) (fun z => ?_)
      obtain ⟨i, -, (⟨-, y⟩ | ⟨-, -, y⟩ | ⟨-, -, y⟩ | ⟨-, -, y⟩ | ⟨-, -, y⟩)⟩ := hp <;> rw [z] at y <;> cases y
    · refine htr p c' (pf.1 p c' (Or.inr (Or.inr (Or.inr (Or.inr (Or.inr (Or.inr (Or.inl hp)))))))) (fun z => ?_)
      obtain ⟨i, -, -, (⟨-, y⟩ | ⟨-, y⟩ | ⟨-, y⟩)⟩ := hp <;> rw [z] at y <;> cases y
    · by_cases e : q' = q
      · subst e
        rw [tR_s]
        exact ⟨by omega, by rw [hn_1]; omega, gR_s _ _ _⟩
      · rw [tR_n _ _ e] at q3 ⊢
        exact htr _ _ (pf.1 _ _ (ref_el q1 q2 q3)) (fun z => e (Prod.mk.inj z).2)
    · rw [h0] at j2 ⊢
      exact htr _ _ (pf.1 _ _ (ref_bk j1 j2)) (fun z => by cases z)
  · have e1 : b ≠ h.1 := fun z => by rw [z, gR_s] at b1; cases b1
    have e2 : b ≠ x.2 q := fun z => by rw [z, hz] at b1; cases b1
    rw [hro b e1 e2] at b1
    exact htr _ _ (pf.2.1 b b1 b2) (fun z => by cases z)
  · by_cases e1 : b = h.1
    · subst e1
      rw [gR_s]
      have := ref_el (g := gR (gR g (x.2 q) (0, 0)) h.1 (4, q)) (x2 := (tR x q h.1).2) h1 h7 (by rw [tR_s]; omega)
      rw [tR_s] at this
      exact this
    · have e2 : b ≠ x.2 q := fun z => by rw [z, hz] at hb; exact absurd hb (by decide)
      rw [hro b e1 e2] at hb ⊢
      rcases pf.2.2 b hb with hp | hp | hp | hp | hp | hp | hp | ⟨q', q1, q2, q3, y1, y2⟩ | ⟨j, j1, j2, y1, y2⟩
      · exact Or.inl hp
      · exact Or.inr (Or.inl hp)
      · exact Or.inr (Or.inr (Or.inl hp))
      · exact Or.inr (Or.inr (Or.inr (Or.inl hp)))
      · exact Or.inr (Or.inr (Or.inr (Or.inr (Or.inl hp))))
      · exact Or.inr (Or.inr (Or.inr (Or.inr (Or.inr (Or.inl hp)))))
      · exact Or.inr (Or.inr (Or.inr (Or.inr (Or.inr (Or.inr (Or.inl hp))))))
      · have e : q' ≠ q := fun z => e2 (by rw [y1, z])
        rw [y2, y1]
        have := ref_el (g := gR (gR g (x.2 q) (0, 0)) h.1 (4, q)) (x2 := (tR x q h.1).2) q1 q2 (by rw [tR_n _ _ e]; exact q3)
        rw [tR_n _ _ e] at this
        exact this
      · rw [y2, y1]
        have := ref_bk (g := gR (gR g (x.2 q) (0, 0)) h.1 (4, q)) (x2 := (tR x q h.1).2) j1 (by rw [h0]; exact j2)
        rw [h0] at this
        exact this
  · rw [h0]
    by_cases e1 : b = h.1
    · subst e1
      rw [hn_s]
      refine cell_4 (by rw [gR_s]) ?_
      rw [gR_s]
      exact ⟨rfl, hc.1, hc.2, hf⟩
    · rw [hn_1] at b2
      rw [hn_o _ _ _ e1]
      by_cases e2 : b = x.2 q
      · subst e2
        exact cell_0 (by rw [hz])
      · exact cell_ro (g := g) rfl rfl rfl (hro b e1 e2) rfl (hC b b1 (by omega))
  · have := bk_new (t := 24) (n := c) (f := f) bk a1
    unfold BK7 at this ⊢
    rw [h0]
    exact this
  · by_cases e : q' = q
    · subst e
      rw [tR_s] at z
      omega
    · rw [tR_n _ _ e] at z
      exact (fl q' q1 q2).2 z
end
