/-! perform against go -/
section
variable {K : Nat → pcell} {tb : Nat} {g g' g1 g2 g0 : gS} {r r' r0 r1 r2 s s' : rS} {x x' x1 x2 xb : xS} {h h' h1 h2 h0 : pheap} {a n k m i j c p q d va ta L A base o mi b u N cm ou M t sv dd ss n1 n2 u1 u2 : Nat} {Q : Option Value → pheap → Prop} {e : Int32} {av : Nat → Nat} {sr ws : Nat → Int32} {ml : Nat → Nat}
/-- what a deed leaves: the calls that were, and the room it takes -/
def GFr (g' g : gS) (h' h : pheap) (n u : Nat) : Prop := (g.1 0 5) ≤ (g'.1 0 5) ∧ (∀ j, j < (g.1 0 5) → (g'.1 6) j = (g.1 6) j) ∧ h.1 ≤ h'.1 ∧ h'.1 ≤ h.1 + n ∧ h'.2.1 ≤ h.2.1 + u
theorem gfr_t (p : GFr g g1 h h1 n1 u1) (q : GFr g1 g2 h1 h2 n2 u2) : GFr g g2 h h2 (n1 + n2) (u1 + u2) := by
  obtain ⟨a1, a2, a3, a4, a5⟩ := p
  obtain ⟨b1, b2, b3, b4, b5⟩ := q
  exact ⟨by omega, fun j hj => (a2 j (by omega)).trans (b2 j hj), by omega, by omega, by omega⟩
theorem gfr_le (p : GFr g' g h' h n u) (h1 : n ≤ n1) (h2 : u ≤ u1) : GFr g' g h' h n1 u1 := by
  obtain ⟨a1, a2, a3, a4, a5⟩ := p
  exact ⟨a1, a2, a3, by omega, by omega⟩
theorem gfr_ef (p : EF g' g h' h n u) : GFr g' g h' h n u := by
  obtain ⟨a1, a2, a3, a4, a5, a6, a7⟩ := p
  exact ⟨by rw [a1]; omega, fun j _ => by rw [a1], a4, a5, a6⟩
theorem gfr_dg (p : DG g' g h' h n u) : GFr g' g h' h n u := by
  obtain ⟨a1, a2, a3, a4, a5, a6⟩ := p
  exact ⟨by rw [a1]; omega, fun j _ => by rw [a1], a4, a5, a6⟩
/-- a deed that has ended -/
theorem fin_act (hc : c < (g.1 0 5)) (hep : EP g r c) (hw1 : World K tb g1 r1 x h1) (hdg : DG g1 g h1 h n u) (hdr : DR r1 r) (hout : Out g1 r1 h1 (eSort g r c) va ta m) : ∃ g' r' x' h', World K tb g' r' x' h' ∧ GFr g' g h' h (n + 2) (u + 245) ∧ (∀ d r0 Q, Go (d + 41) 107 0 [.ref 5, .ref ((g.1 6) c), pv va, pv ta, mk0, mk0] [] (putR r0 (putX x h1)) Q = Q none (putR r0 (putX x' h'))) ∧ (∀ d (H : pheap) Q, 146 ≤ H.1 → Go (d + 7) 235 0 [.ref 73, .int (nI c), mk0] [] (putR r1 H) Q = Q none (putR r' H)) := by
  obtain ⟨p1, p2⟩ := ep_d hdg hdr hep
  have hg : g1.1 = g.1 := hdg.1
  obtain ⟨g', r', x', h', y1, y2, y3, -, y4, y5⟩ := endDeed_ok hw1 (by rw [hg]; exact hc) p1 (by rw [p2]; exact hout)
  rw [hg] at y4
  refine ⟨g', r', x', h', y1, ?_, y4, y5⟩
  have := gfr_t (gfr_ef y2) (gfr_dg hdg)
  have hb := eB_le (va := va)
  exact gfr_le this (by omega) (by omega)
/-- where a deed begins: the thing's number of deeds -/
theorem w_beg (hw : World K tb g r x h) (hca : CA K g r h c o A n av sr) (hA0 : g.2.2.2.1 A = (0, 0)) : World K tb g (sA (sI r 78 0) 105 o ((r.2.2.1 105) o + 1)) x (hset h ((g.1 5) o) 8 (.int ((r.2.2.1 105) o + 1))) ∧ CA K g (sA (sI r 78 0) 105 o ((r.2.2.1 105) o + 1)) (hset h ((g.1 5) o) 8 (.int ((r.2.2.1 105) o + 1))) c o A n av sr := by
  obtain ⟨s1, s2, s3, s4, s5, s6⟩ := ca_s hw hca.1 hca.2.1
  have hw0 := w_sc hw (sc_fail (r := r) 0)
  have hw1 : World K tb g (sA (sI r 78 0) 105 o ((r.2.2.1 105) o + 1)) x (hset h ((g.1 5) o) 8 (.int ((r.2.2.1 105) o + 1))) := ⟨op_begun hw0.1 s4 _, hw0.2⟩
  refine ⟨hw1, ?_⟩
  obtain ⟨h1, h2, ⟨⟨a1, a2, a3, a4, a5, a6⟩, a7⟩, h4, h5⟩ := hca
  obtain ⟨t1, t2, t3, -⟩ := sim_cell hw.1 (ref_thg (x2 := x.2) s4)
  have hne : A ≠ (g.1 5) o := fun z => by rw [z, t3] at hA0; cases hA0
  have hcA : (hset h ((g.1 5) o) 8 (.int ((r.2.2.1 105) o + 1))).2.2 A = h.2.2 A := hs_o _ _ hne
  exact ⟨h1, h2, ⟨⟨a1, a2, by rw [hcA]; exact a3, by rw [hcA]; exact a4, a5, a6⟩, fun k hk => by rw [hcA]; exact a7 k hk⟩, h4, h5⟩
end
