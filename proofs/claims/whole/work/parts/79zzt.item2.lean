section
variable {K : Nat → pcell} {tb : Nat} {g g' g0 g1 g2 : gS} {r r' r0 v v' : rS} {x x' x0 x1 : xS} {h h' h0 h1 : pheap} {d : Nat} {Q : Option Value → pheap → Prop} {a n k m rc b L n0 p q j t c c2 c3 no A ce T Dn : Nat} {F fs : Nat → Int32} {l l' : List Nat} {s z c0 s0 : Int32} {w u : Int64} {os fc : Nat → Nat} {P G : Nat → Prop}
/-- an item without a node, in step -/
theorem it_is (hc : CB K tb g0 x0 h0 b L F n0 j g v x h) (h5 : (h.2.2 b).2.2 5 = .int (nI p)) (h2 : (h.2.2 b).2.2 2 = .int 0) (hi : IS (g.1 0 4) ((g.2.2.2.2.2 13)) F n0 l s p q w z) (hq : q ≤ L) (hs : isSrt (g.2.2.2.2.1 2) (g.2.2.2.2.1 3) s) (hn : (g.1 0 1) = n0 + l.length) (hl : ∀ i rc, l[i]? = some rc → (g.2.2.2.2.2 11) (n0 + i) = rc) (hl12 : l.length ≤ 12) (hD : Dn < 8) (hR : HR A L F n0 Dn l p s g v r T P G ce) : ∃ a g' v' x' h', IC K tb g0 x0 h0 b L F n0 j A Dn c0 s0 l l q s g v x h r T P G ce a g' v' x' h' := by
  obtain ⟨g', h', y1, y2, y3, y4, y5⟩ := is_cls (c2 := x.2 0) (c3 := 20) hc h5 h2 hi hq hs
  have hw := hc.1
  obtain ⟨z1, z2, z3, z4, z5, z6, z7, z8, z9, z10⟩ := y2
  have hnn : (g'.1 0 1) = (g.1 0 1) := by rw [z8]
  have hno : (g'.1 0 4) = (g.1 0 4) := by rw [z8]
  have hnr : (g'.2.2.2.2.2 11) = (g.2.2.2.2.2 11) := by rw [z9]
  have hos : (g'.2.2.2.2.2 13) = (g.2.2.2.2.2 13) := by rw [z9]
  have hvv := is_vv hw hi (by omega) hl
  have hno24 := (w_no hw).2.1
  refine ⟨h.1, g', v, x, h', y1, ⟨sim_146 hw.1, z4, z1⟩, z2, ?_, ?_, ⟨by omega, Nat.le_refl _⟩, ⟨by omega, by omega⟩, ⟨by omega, by omega⟩, ⟨rfl, vw_r⟩, fun d r0 Q hd => ?_, Or.inr ⟨z7.trans h2, y3, by omega, fun i rc e => by rw [hnr]; exact hl i rc e, ?_⟩⟩
  · exact ⟨fun k _ => by rw [z8], fun a _ _ => by rw [z8], fun m _ => by rw [z8], by rw [z9], fun a _ _ => by rw [z9], fun m _ => by rw [z9], fun i _ => by rw [z9]⟩
  · exact fun a ha _ => z10 a ha
  · obtain ⟨d', rfl⟩ : ∃ d', d = d' + 4 := ⟨d - 4, by omega⟩
    exact y5 d' r0 Q
  · obtain ⟨hr, hrs, t1, t2, t3, t4, hce, hP, hPc⟩ := hR
    obtain ⟨m1, m2, m3⟩ := hrs
    have hod : (r.2.2.1 100) = v.2.2.1 100 := hr.1.2.2.1 _ (by decide) (by decide) (by decide) (by decide) (by decide) (by decide) (by decide) (by decide) (by decide) (by decide) (by decide) (by decide) (by decide)
    obtain ⟨Lt, Rf, u1, u2, u3, u4⟩ := is_ref (c0 := c0) (s0 := s0) (Dn := Dn) t1 (by omega) t2 t3 hce m1 hi hq hD hno24 (fun o ho => by
      obtain ⟨w1, w2, -⟩ := w_obj hw o ho
      have := (w_nd hw).2.1
      exact ⟨(g.2.2.2.2.2 12) o, by omega, by rw [hod]; exact w1⟩) m3 hl12
    refine ⟨itR r T A q ce w z Lt Rf, fun o => G o ∨ (o < (g.1 0 4) ∧ 20 ≤ s ∧ w = (nI o).toInt64), rel_it hr u1 hno24 u3, ⟨⟨rfl, m1.2.1, m1.2.2.1, m1.2.2.2⟩, m2, m3⟩, rfl, ⟨rfl, fun _ _ => ⟨rfl, rfl⟩⟩, ?_, ?_, fun c hc hce' => ?_, fun o => ?_, u4⟩
    · refine y4 ce _ _ _ (upN_s _ _ _) (upN_s _ _ _) (fun m e1 e2 k e3 => ?_)
      exact u2 m e1 e2 k e3
    · rw [hnn, hno, hnr, hos]
      have e : (itR r T A q ce w z Lt Rf).2.2.2 87 ce = w := upN_s ((r.2.2.2 87)) ce w
      rw [e]
      exact hvv
    · refine ⟨upN_n ((r.2.2.2 87)) w hce', upN_n ((r.2.2.1 88)) z hce', fun k hk => u1 _ (by omega)⟩
    · constructor
      · rintro (e | ⟨e1, e2, e3⟩)
        · exact Or.inl e
        · refine Or.inr (Or.inl ⟨by rw [hno]; exact e1, by rw [z2]; exact e2, ?_⟩)
          rw [(z3 (fun y => by rw [y] at e2; exact absurd e2 (by decide))).1]
          exact e3
      · rintro (e | ⟨e1, e2, e3⟩ | ⟨m, k, e1, e2, -⟩)
        · exact Or.inl e
        · rw [z2] at e2
          rw [(z3 (fun y => by rw [y] at e2; exact absurd e2 (by decide))).1] at e3
          exact Or.inr ⟨by rw [← hno]; exact e1, e2, e3⟩
        · omega
end
