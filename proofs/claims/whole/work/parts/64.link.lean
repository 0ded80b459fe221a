section
variable {K : Nat → pcell} {tb : Nat} {g g' g0 : gS} {r r' r0 : rS} {x x' : xS} {h h' : pheap} {d : Nat} {Q : Option Value → pheap → Prop} {a n : Nat}
theorem el_q {q' : Nat} {x2 : Nat → Nat} {b : Nat} (hr : Ref0 g x2 b (4, q')) : 1 ≤ q' ∧ q' < 7 ∧ x2 q' ≠ 1 ∧ b = x2 q' := by
  rcases hr with ⟨i, -, (⟨-, z⟩ | ⟨-, z⟩ | ⟨-, z⟩ | ⟨-, z⟩)⟩ | ⟨i, -, -, z⟩ | ⟨i, -, (⟨-, z⟩ | ⟨-, z⟩ | ⟨k, -, -, z⟩)⟩ | ⟨i, -, (⟨-, z⟩ | ⟨-, z⟩)⟩ | ⟨k, -, -, z⟩ | ⟨k, -, (⟨-, z⟩ | ⟨-, -, z⟩ | ⟨-, -, z⟩ | ⟨-, -, z⟩ | ⟨-, -, z⟩)⟩ | ⟨k, -, -, (⟨-, z⟩ | ⟨-, z⟩ | ⟨-, z⟩)⟩ | ⟨q, q1, q2, q3, q4, z⟩ | ⟨j, -, -, -, z⟩
  case inr.inr.inr.inr.inr.inr.inr.inl =>
    have : q' = q := (Prod.mk.inj z).2
    subst this
    exact ⟨q1, q2, q3, q4⟩
  all_goals cases z
/-- one thing more in list q -/
theorem sim_link (hs : Sim K g r x h) {q : Nat} (new : Nat → Prop) (h1 : 1 ≤ q) (h7 : q < 7) (he : 146 ≤ x.2 q) (hn : n = g.1 0 (q - 1)) (hcap : n < (h.2.2 (x.2 q)).2.1)
    (hL0 : g'.1 0 (q - 1) = n + 1) (hL1 : ∀ k, k ≠ q - 1 → g'.1 0 k = g.1 0 k) (hLq : g'.1 q = upN (g.1 q) n a) (hL2 : ∀ b, 1 ≤ b → b ≠ q → g'.1 b = g.1 b)
    (hva : ∀ b, g'.2.1 b = g.2.1 b) (hnew : ∀ b, new b → g.2.2.2.1 b = (0, 0) ∧ 146 ≤ b ∧ b < h.1) (hro : ∀ b, ¬ new b → g'.2.2.2.1 b = g.2.2.2.1 b) (hro1 : ∀ b, new b → 4 < (g'.2.2.2.1 b).1)
    (hR1 : ∀ p c, Ref0 g' x.2 p c → okP g.2.2.2.1 h.1 p c ∧ c.1 ≠ 0 ∨ new p ∧ g'.2.2.2.1 p = c)
    (hR2 : ∀ b, 4 ≤ (g'.2.2.2.1 b).1 → (new b ∨ Ref0 g x.2 b (g.2.2.2.1 b)) → Ref0 g' x.2 b (g'.2.2.2.1 b))
    (hC1 : ∀ b c, ¬ new b → (g.2.2.2.1 b).1 ≠ 4 → 146 ≤ b → b < h.1 → Cell g r (x.2 0) b c → Cell g' r' (x.2 0) b c) (hC2 : ∀ b, new b → Cell g' r' (x.2 0) b (h.2.2 b))
    (hbk : BK7 g' r' x h) (hvr : VRs g' ((r'.2.2.2 87)) ((r'.2.2.1 88)) ((r'.2.2.1 89)) ((r'.2.2.1 91)) ((r'.2.2.1 80)) ((r'.2.2.1 84))) (hkp : Kept g' ((r'.2.2.1 118)) ((r'.2.2.1 126)) ((r'.2.2.1 123)) ((r'.2.2.1 127)) ((r'.2.2.1 132)))
    (hft : FxT g' x ((r'.2.2.1 74)) ((r'.2.2.1 90))) (hfw : FxW g' x ((r'.2.2.1 139))) (hfx : Fx x r') : Sim K g' r' (tI x (18 + q) 2 (nI (n + 1))) (hset h (x.2 q) n (.ref a)) := by
  have hel := sim_cell hs (ref_el (g := g) h1 h7 (show x.2 q ≠ 1 by omega))
  obtain ⟨e1, e2, e3, -, -, -, e4, -⟩ := hel
  rw [e3] at e4
  obtain ⟨f1, f2, f3, f4⟩ := e4 rfl
  obtain ⟨⟨a1, a2, a3, a4⟩, pf, hC, bk, vr, kp, ft, fl, fw, fx⟩ := hs
  have hne : ¬ new (x.2 q) := fun z => by rw [(hnew _ z).1] at e3; cases e3
  have htr : ∀ p c, okP g.2.2.2.1 h.1 p c → c.1 ≠ 0 → okP g'.2.2.2.1 h.1 p c := fun p c ⟨u1, u2, u3⟩ hc => by
    refine ⟨u1, u2, ?_⟩
    rw [hro p (fun z => ?_)]
    · exact u3
    · rw [(hnew p z).1] at u3
      rw [← u3] at hc
      exact hc rfl
  refine ⟨⟨a1, a2, lo_set a3 he, fun b hb => ?_⟩, ⟨fun p c hp => ?_, fun b b1 b2 => ?_, fun b hb => ?_⟩, fun b b1 b2 => ?_, bk_set hbk he, hvr, hkp, ?_, fun q' q1 q2 => ?_, ?_, ?_⟩
  · have hb' : h.1 ≤ b ∨ b < 146 := hb
    rw [hro b (fun z => by have := hnew b z; omega)]
    exact a4 b hb'
  · rcases hR1 p c hp with ⟨u, v⟩ | ⟨u, v⟩
    · exact htr p c u v
    · exact ⟨(hnew p u).2.1, (hnew p u).2.2, v⟩
  · by_cases hb : new b
    · have := hro1 b hb
      omega
    · rw [hro b hb] at b1
      rw [hva b] at b2 ⊢
      exact htr _ _ (pf.2.1 b b1 b2) (fun z => Nat.noConfusion z)
  · by_cases hb' : new b
    · exact hR2 b hb (Or.inl hb')
    · have := hro b hb'
      exact hR2 b hb (Or.inr (pf.2.2 b (by rw [← this]; exact hb)))
  · have b2' : b < h.1 := b2
    show Cell g' r' (x.2 0) b _
    by_cases hb : b = x.2 q
    · subst hb
      rw [hs_s]
      refine cell_4 (by rw [hro _ hne, e3]) ?_
      rw [hro _ hne, e3]
      show cEl (g'.1 0 (q - 1)) (g'.1 q) _
      rw [hL0, hLq]
      refine ⟨f1, by show n + 1 ≤ (h.2.2 (x.2 q)).2.1; omega, f3, fun k hk => ?_⟩
      show updV _ n (.ref a) k = .ref (upN (g.1 q) n a k)
      by_cases hk' : k = n
      · subst hk'
        rw [uv_s, upN_s]
      · rw [uv_o _ _ hk', upN_n _ _ hk']
        exact f4 k (by show k < g.1 0 (q - 1); omega)
    · rw [hs_o _ _ hb]
      by_cases hb' : new b
      · exact hC2 b hb'
      · by_cases h4 : (g.2.2.2.1 b).1 = 4
        · have hr := pf.2.2 b (by omega)
          have hg : g.2.2.2.1 b = (4, (g.2.2.2.1 b).2) := Prod.ext h4 rfl
          rw [hg] at hr
          obtain ⟨k1, k2, k3, k4⟩ := el_q hr
          have hqq : (g.2.2.2.1 b).2 ≠ q := fun z => hb (by rw [k4, z])
          obtain ⟨-, -, -, y, -⟩ := hC b b1 b2'
          refine cell_4 (by rw [hro b hb']; exact h4) ?_
          rw [hro b hb', hL1 _ (by omega), hL2 _ (by omega) hqq]
          exact y h4
        · exact hC1 b _ hb' h4 b1 b2' (hC b b1 b2')
  · obtain ⟨t1, t2, t3, t4⟩ := hft
    refine ⟨?_, fun k hk => ?_, ?_, fun k hk => ?_⟩
    · rw [tI_ne _ _ (by omega)]; exact t1
    · rw [tI_ne _ _ (by omega)]; exact t2 k hk
    · rw [tI_ne _ _ (by omega)]; exact t3
    · rw [tI_ne _ _ (by omega)]; exact t4 k hk
  · show _ ∧ (x.2 q' = 1 → _)
    by_cases hq : q' = q
    · subst hq
      rw [tI_s, hL0]
      exact ⟨rfl, fun z => by omega⟩
    · rw [tI_ne _ _ (by omega), hL1 _ (by omega)]
      exact fl q' q1 q2
  · exact fxw_t hfw (by omega)
  · obtain ⟨y1, y2, y3, y4⟩ := hfx
    refine ⟨?_, ?_, ?_, ?_⟩
    · rw [tI_ne _ _ (by omega)]; exact y1
    · rw [tI_ne _ _ (by omega)]; exact y2
    · rw [tI_ne _ _ (by omega)]; exact y3
    · rw [tI_ne _ _ (by omega)]; exact y4
end
