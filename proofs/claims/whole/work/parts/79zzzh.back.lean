/-! NODES lack: the world as it was before the message was read -/
section
variable {K : Nat → pcell} {tb : Nat} {g g' g0 g1 g2 : gS} {r r' r0 v v' R : rS} {x x' x0 x1 : xS} {h h' h0 h1 : pheap} {d : Nat} {Q : Option Value → pheap → Prop} {a n k m rc b L n0 p q j t c c2 c3 no A ce ce0 T Dn N i ar sa D o e : Nat} {F fs sr w : Nat → Int32} {l l' : List Nat} {s z : Int32} {os fc as : Nat → Nat} {S S' : Nat → Prop}
def bkG (g0 : gS) (e : Nat) : gS := (g0.1, g0.2.1, g0.2.2.1, (fun a => if a = e ∧ e ≠ 1 then (4, 2) else if g0.2.2.2.1 a = (4, 2) then (0, 0) else g0.2.2.2.1 a), g0.2.2.2.2)
theorem bk_e (he : e ≠ 1) : (bkG g0 e).2.2.2.1 e = (4, 2) := if_pos ⟨rfl, he⟩
theorem bk_n (ha : a = e → e = 1) (hr : g0.2.2.2.1 a ≠ (4, 2)) : (bkG g0 e).2.2.2.1 a = g0.2.2.2.1 a := by
  show (if a = e ∧ e ≠ 1 then (4, 2) else if g0.2.2.2.1 a = (4, 2) then (0, 0) else g0.2.2.2.1 a) = _
  rw [if_neg (fun y => y.2 (ha y.1)), if_neg hr]
theorem bk_z (ha : a = e → e = 1) (hr : g0.2.2.2.1 a = (4, 2)) : (bkG g0 e).2.2.2.1 a = (0, 0) := by
  show (if a = e ∧ e ≠ 1 then (4, 2) else if g0.2.2.2.1 a = (4, 2) then (0, 0) else g0.2.2.2.1 a) = _
  rw [if_neg (fun y => y.2 (ha y.1)), if_pos hr]
theorem ref_42 {x2 y2 : Nat → Nat} {c : Nat × Nat} (hp : Ref0 g x2 p c) (hq : ∀ q, q ≠ 2 → x2 q = y2 q) : (c = (4, 2) ∧ p = x2 2 ∧ x2 2 ≠ 1) ∨ (c ≠ (4, 2) ∧ Ref0 g y2 p c) := by
  rcases hp with hp | hp | hp | hp | hp | hp | hp | ⟨q', q1, q2, q3, rfl, rfl⟩ | ⟨j, j1, j2, rfl, rfl⟩
  · refine Or.inr ⟨fun z => ?_, Or.inl hp⟩
    obtain ⟨i, -, (⟨-, y⟩ | ⟨-, y⟩ | ⟨-, y⟩ | ⟨-, y⟩)⟩ := hp <;> rw [z] at y <;> cases y
  · refine Or.inr ⟨fun z => ?_, Or.inr (Or.inl hp)⟩
    obtain ⟨i, -, -, y⟩ := hp
    rw [z] at y; cases y
  · refine Or.inr ⟨fun z => ?_, Or.inr (Or.inr (Or.inl hp))⟩
    obtain ⟨i, -, (⟨-, y⟩ | ⟨-, y⟩ | ⟨k, -, -, y⟩)⟩ := hp <;> rw [z] at y <;> cases y
  · refine Or.inr ⟨fun z => ?_, Or.inr (Or.inr (Or.inr (Or.inl hp)))⟩
    obtain ⟨i, -, (⟨-, y⟩ | ⟨-, y⟩)⟩ := hp <;> rw [z] at y <;> cases y
  · refine Or.inr ⟨fun z => ?_, Or.inr (Or.inr (Or.inr (Or.inr (Or.inl hp))))⟩
    obtain ⟨i, -, -, y⟩ := hp
    rw [z] at y; cases y
  · refine Or.inr ⟨fun z => ?_, Or.inr (Or.inr (Or.inr (Or.inr (Or.inr (Or.inl hp)))))⟩
    obtain ⟨i, -, (⟨-, y⟩ | ⟨-, -, y⟩ | ⟨-, -, y⟩ | ⟨-, -, y⟩ | ⟨-, -, y⟩)⟩ := hp <;> rw [z] at y <;> cases y
  · refine Or.inr ⟨fun z => ?_, Or.inr (Or.inr (Or.inr (Or.inr (Or.inr (Or.inr (Or.inl hp))))))⟩
    obtain ⟨i, -, -, (⟨-, y⟩ | ⟨-, y⟩ | ⟨-, y⟩)⟩ := hp <;> rw [z] at y <;> cases y
  · by_cases e : q' = 2
    · subst e
      exact Or.inl ⟨rfl, rfl, q3⟩
    · refine Or.inr ⟨fun z => e (by cases z; rfl), ?_⟩
      rw [hq q' e] at q3 ⊢
      exact ref_el q1 q2 q3
  · refine Or.inr ⟨(fun z => by cases z), Or.inr (Or.inr (Or.inr (Or.inr (Or.inr (Or.inr (Or.inr (Or.inr ⟨j, j1, ?_, ?_, rfl⟩)))))))⟩
    · rw [← hq 0 (by decide)]; exact j2
    · rw [hq 0 (by decide)]
theorem w_back (hw : World K tb g0 R x0 h0) (hc : CB K tb g0 x0 h0 b L F n0 j g v x h) (hn0 : (g0.1 0 1) = n0) (hx1 : ∀ a k, a ≠ 20 → x'.1 a k = x.1 a k) (hx20 : x'.1 20 2 = nI n0) (hx2 : x'.2 = x.2) (hh1 : h'.1 = h.1) (ho : ∀ a, (a = x.2 2 → x.2 2 = 1) → h'.2.2 a = h.2.2 a) (he : x.2 2 ≠ 1 → (h'.2.2 (x.2 2)).1 = (h.2.2 (x.2 2)).1 ∧ (h'.2.2 (x.2 2)).2.1 = (h.2.2 (x.2 2)).2.1 ∧ ∀ k, k < n0 → (h'.2.2 (x.2 2)).2.2 k = (h.2.2 (x.2 2)).2.2 k) : World K tb (bkG g0 (x.2 2)) R x' h' := by
  obtain ⟨c1, c2, c3, ⟨c4, c4'⟩, ⟨G1, G2, G3, G4, G5, G6, G7⟩, ⟨c7, c8⟩, c9, ⟨c10, c11, c12⟩, c13, c14, ⟨d1, d2, d3, d4, d5⟩⟩ := hc
  have hh := sim_146 c1.1
  have hel : x.2 2 ≠ 1 → okP g.2.2.2.1 h.1 (x.2 2) (4, 2) := fun y => c1.1.2.1.1 _ _ (ref_el (by decide) (by decide) y)
  have hold : x.2 2 ≠ 1 → x.2 2 < h0.1 → g0.2.2.2.1 (x.2 2) = (4, 2) := fun y1 y2 => Classical.byContradiction fun y3 => y3 ((c9 _ y2 y3).1.symm.trans (hel y1).2.2)
  have hne : ∀ a, a < h0.1 → g0.2.2.2.1 a ≠ (4, 2) → a = x.2 2 → x.2 2 = 1 := fun a a1 a2 a3 => Classical.byContradiction fun y => a2 (by rw [a3]; exact hold y (by omega))
  have hro : ∀ a, a < h0.1 → g0.2.2.2.1 a ≠ (4, 2) → (bkG g0 (x.2 2)).2.2.2.1 a = g0.2.2.2.1 a := fun a a1 a2 => bk_n (hne a a1 a2) a2
  have hoN : ∀ a, a < h0.1 → g0.2.2.2.1 a ≠ (4, 2) → a ≠ b → h'.2.2 a = h0.2.2 a := fun a a1 a2 a3 => (ho a (hne a a1 a2)).trans ((c9 a a1 a2).2.2.2 a3)
  have hlow : ∀ a, a < 146 → a = x.2 2 → x.2 2 = 1 := fun a a1 a2 => Classical.byContradiction fun y => by
    have := (hel y).1
    omega
  have hx2q : ∀ q, q ≠ 2 → x'.2 q = x0.2 q := fun q hq => by rw [hx2]; exact c14 q hq
  have hx1q : ∀ a, a ≠ 20 → x'.1 a = x0.1 a := fun a ha => funext fun k => (hx1 a k ha).trans (c13 a k ha)
  obtain ⟨⟨⟨a1, a2, a3, a4⟩, pf, hC, bk, vr, kp, ft, fl, fw, fx⟩, iv, ms⟩ := hw
  have hok : ∀ p c, okP g0.2.2.2.1 h0.1 p c → c ≠ (4, 2) → okP (bkG g0 (x.2 2)).2.2.2.1 h'.1 p c := fun p c ⟨p1, p2, p3⟩ hc => ⟨p1, by omega, (hro p p2 (by rw [p3]; exact hc)).trans p3⟩
  refine ⟨⟨⟨by omega, a2, fun a ha => (ho a (hlow a (by omega))).trans (c1.1.1.2.2.1 a ha), fun y hy => ?_⟩, ⟨fun p c hp => ?_, fun y y1 y2 => ?_, fun y hy => ?_⟩, fun y y1 y2 => ?_, ?_, vr, kp, ?_, fun q q1 q2 => ?_, ?_, ?_⟩, iv, ms⟩
  · have hz : g0.2.2.2.1 y = (0, 0) := a4 y (by omega)
    rw [bk_n (fun e => ?_) (by rw [hz]; exact fun y => by cases y)]
    · exact hz
    · exact Classical.byContradiction fun y' => by
        have := hel y'
        obtain ⟨z1, z2, -⟩ := this
        omega
  · have hp' : Ref0 g0 x'.2 p c := hp
    rcases ref_42 hp' hx2q with ⟨rfl, rfl, z⟩ | ⟨z1, z2⟩
    · rw [hx2] at z ⊢
      obtain ⟨z1, z2, -⟩ := hel z
      exact ⟨z1, by omega, bk_e z⟩
    · exact hok p c (pf.1 p c z2) z1
  · by_cases e : y = x.2 2 ∧ x.2 2 ≠ 1
    · rw [e.1, bk_e e.2] at y1
      exact absurd y1 (by decide)
    · have e' : y = x.2 2 → x.2 2 = 1 := fun z => Classical.byContradiction fun z' => e ⟨z, z'⟩
      by_cases e2 : g0.2.2.2.1 y = (4, 2)
      · rw [bk_z e' e2] at y1
        exact absurd y1 (by decide)
      · rw [bk_n e' e2] at y1
        exact hok _ _ (pf.2.1 y y1 y2) (fun z => by cases z)
  · by_cases e : y = x.2 2 ∧ x.2 2 ≠ 1
    · obtain ⟨rfl, e2⟩ := e
      rw [bk_e e2, hx2]
      exact ref_el (by decide) (by decide) e2
    · have e' : y = x.2 2 → x.2 2 = 1 := fun z => Classical.byContradiction fun z' => e ⟨z, z'⟩
      by_cases e2 : g0.2.2.2.1 y = (4, 2)
      · rw [bk_z e' e2] at hy
        exact absurd hy (by decide)
      · rw [bk_n e' e2] at hy ⊢
        rcases ref_42 (pf.2.2 y hy) (fun q hq => (hx2q q hq).symm) with ⟨z, -⟩ | ⟨-, z⟩
        · exact absurd z e2
        · exact z
  · rw [hx2q 0 (by decide)]
    by_cases e : y = x.2 2 ∧ x.2 2 ≠ 1
    · obtain ⟨rfl, e2⟩ := e
      obtain ⟨z1, z2, z3⟩ := hel e2
      have hc4 := (c1.1.2.2.1 _ z1 z2).2.2.2.1 (by rw [z3])
      rw [z3] at hc4
      obtain ⟨w1, w2, w3, w4⟩ := hc4
      obtain ⟨k1, k2, k3⟩ := he e2
      refine cell_4 (by rw [bk_e e2]) ?_
      rw [bk_e e2]
      have w2' : (g.1 0 1) ≤ (h.2.2 (x.2 2)).2.1 := w2
      refine ⟨k1.trans w1, ?_, by rw [k2]; exact w3, fun k hk => ?_⟩
      · show (g0.1 0 1) ≤ _
        rw [k2, hn0]
        omega
      · have hk' : k < n0 := by rw [← hn0]; exact hk
        rw [k3 k hk', w4 k (show k < (g.1 0 1) by omega)]
        show Value.ref ((g.1 2) k) = .ref ((g0.1 2) k)
        rw [G3 k hk']
    · have e' : y = x.2 2 → x.2 2 = 1 := fun z => Classical.byContradiction fun z' => e ⟨z, z'⟩
      by_cases e2 : g0.2.2.2.1 y = (4, 2)
      · exact cell_0 (by rw [bk_z e' e2])
      · by_cases e3 : y < h0.1
        · have er := hro y e3 e2
          by_cases e4 : y = b
          · subst e4
            have hb15 : g.2.2.2.1 y = (15, j) := (c9 y e3 e2).1.trans d4
            obtain ⟨-, -, -, -, -, -, -, -, -, -, -, -, -, -, hb, -⟩ := c1.1.2.2.1 y y1 (by omega)
            have hb' := hb (by rw [hb15])
            refine cell_15 (by rw [er, d4]) ?_
            rw [er, d4, ho y e']
            rw [hb15, G5 _ (by decide) (by decide), G5 _ (by decide) (by decide), G5 _ (by decide) (by decide)] at hb'
            exact hb'
          · rw [hoN y e3 e2 e4]
            exact cell_ro (g := g0) rfl rfl rfl er rfl (hC y y1 e3)
        · exact cell_0 (by rw [bk_n e' e2, a4 y (Or.inl (by omega))])
  · rcases bk with ⟨z1, z2⟩ | z
    · refine Or.inl ⟨by rw [hx2q 0 (by decide)]; exact z1, fun k hk => ?_⟩
      have h7 : g0.2.2.2.1 (7 + k) = (0, 0) := a4 _ (Or.inr (by omega))
      rw [hoN (7 + k) (by omega) (by rw [h7]; exact fun y => by cases y) (fun y => by rw [← y, h7] at d4; cases d4)]
      exact z2 k hk
    · exact Or.inr (by rw [hx2q 0 (by decide)]; exact z)
  · unfold FxT
    rw [hx1q 5 (by decide), hx1q 6 (by decide), hx1q 18 (by decide)]
    exact ft
  · by_cases e : q = 2
    · subst e
      refine ⟨?_, fun y => ?_⟩
      · rw [show 18 + 2 = 20 from rfl, hx20]
        show nI n0 = nI (g0.1 0 1)
        rw [hn0]
      · rw [hx2] at y
        have := (c1.1.2.2.2.2.2.2.2.1 2 (by decide) (by decide)).2 y
        have t : (g.1 0 1) = 0 := this
        show (g0.1 0 1) = 0
        omega
    · rw [hx1q _ (by omega), hx2q q e]
      exact fl q q1 q2
  · unfold FxW
    rw [hx1q 25 (by decide), hx1q 69 (by decide), hx1q 68 (by decide)]
    obtain ⟨w1, w2, w3, w4, w5⟩ := fw
    refine ⟨w1, w2, w3, w4, fun i hi => ⟨(w5 i hi).1, fun k hk => ?_⟩⟩
    rw [hx1q _ (by omega)]
    exact (w5 i hi).2 k hk
  · unfold Fx
    rw [hx1q 5 (by decide), hx1q 25 (by decide)]
    exact fx
end
