/-! through: parts that come; a new Incoming -/
section
variable {K : Nat → pcell} {tb : Nat} {g g' g1 g2 g0 : gS} {r r' r0 r1 r2 s s' : rS} {x x' x1 x2 xb : xS} {h h' h1 h2 h0 : pheap} {a n k m i j c p q d A o b w : Nat} {Q : Option Value → pheap → Prop} {e v nt : Int32}
def gI (g : gS) (j b : Nat) : gS := (g.1, g.2.1, g.2.2.1, upN (upN (upN g.2.2.2.1 b (15, j)) (b + 1) (16, j)) (b + 2) (17, j), g.2.2.2.2.1, upN g.2.2.2.2.2 23 (upN ((g.2.2.2.2.2 23)) j b))
theorem gI_o {a : Nat} (h0 : a ≠ b) (h1 : a ≠ b + 1) (h2 : a ≠ b + 2) : (gI g j b).2.2.2.1 a = g.2.2.2.1 a := by
  show upN (upN (upN g.2.2.2.1 b _) (b + 1) _) (b + 2) _ a = _
  rw [upN_n _ _ h2, upN_n _ _ h1, upN_n _ _ h0]
theorem gI_0 : (gI g j b).2.2.2.1 b = (15, j) := by
  show upN (upN (upN g.2.2.2.1 b _) (b + 1) _) (b + 2) _ b = _
  rw [upN_n _ _ (by omega), upN_n _ _ (by omega), upN_s]
theorem gI_1 : (gI g j b).2.2.2.1 (b + 1) = (16, j) := by
  show upN (upN (upN g.2.2.2.1 b _) (b + 1) _) (b + 2) _ (b + 1) = _
  rw [upN_n _ _ (by omega), upN_s]
theorem gI_2 : (gI g j b).2.2.2.1 (b + 2) = (17, j) := upN_s _ _ _
theorem gI_s : (gI g j b).2.2.2.2.2 23 j = b := upN_s _ _ _
theorem gI_n {i : Nat} (hi : i ≠ j) : (gI g j b).2.2.2.2.2 23 i = (g.2.2.2.2.2 23) i := upN_n _ _ hi
theorem w_newInc (hw : World K tb g r x h) (hwc : w < 2) (hc : c < (g.1 0 5)) (h0 : (g.2.2.2.2.2 23) (60 * w + c) = 0) (hb : 146 ≤ b) (hb2 : b + 2 < h.1) (r0' : g.2.2.2.1 b = (0, 0)) (r1' : g.2.2.2.1 (b + 1) = (0, 0)) (r2' : g.2.2.2.1 (b + 2) = (0, 0)) (hbt : (g.2.2.2.2.2 31) (60 * w + c) = 0)
    (c15 : (h.2.2 b).1 = 6 ∧ (h.2.2 b).2.2 0 = .int 0 ∧ (∃ u, (h.2.2 b).2.2 1 = .int u) ∧ (∃ u, (h.2.2 b).2.2 2 = .int u) ∧ (∃ u, (h.2.2 b).2.2 3 = .int u) ∧ (∃ u, (h.2.2 b).2.2 4 = .int u) ∧ (∃ u, (h.2.2 b).2.2 5 = .int u) ∧ (h.2.2 b).2.2 6 = .ref (b + 1) ∧ (h.2.2 b).2.2 7 = .ref (b + 2))
    (c16 : (h.2.2 (b + 1)).1 = 23 ∧ (h.2.2 (b + 1)).2.1 = 10 ∧ ∀ k, k < 10 → (h.2.2 (b + 1)).2.2 k = .int 0) (c17 : (h.2.2 (b + 2)).1 = 22 ∧ (h.2.2 (b + 2)).2.1 = 240 ∧ ∀ k, k < 240 → ∃ u, (h.2.2 (b + 2)).2.2 k = .int u) : World K tb (gI g (60 * w + c) b) r x (hset h ((g.1 6) c) (15 + w) (.ref b)) := by
  have hn60 := (w_nc hw).2.1
  obtain ⟨hS, ⟨i1, i2, i3, i4, i5, i6, i7, i8, i9, i10⟩, hms⟩ := hw
  obtain ⟨a1, a2, a3, a4⟩ := sim_cell hS (ref_cal (x2 := x.2) hc)
  obtain ⟨⟨s1, s2, s3, s4⟩, pf, hC, bk, vr, kp, ft, flx, fw, fx⟩ := hS
  have hne : ∀ p c, okP g.2.2.2.1 h.1 p c → c.1 ≠ 0 → p ≠ b ∧ p ≠ b + 1 ∧ p ≠ b + 2 := fun p c ⟨_, _, e⟩ hc => by
    refine ⟨fun z => ?_, fun z => ?_, fun z => ?_⟩
    · rw [z, r0'] at e; rw [← e] at hc; exact hc rfl
    · rw [z, r1'] at e; rw [← e] at hc; exact hc rfl
    · rw [z, r2'] at e; rw [← e] at hc; exact hc rfl
  have htr : ∀ p c', okP g.2.2.2.1 h.1 p c' → c'.1 ≠ 0 → okP (gI g (60 * w + c) b).2.2.2.1 h.1 p c' := fun p c' ho hc' => by
    obtain ⟨n0, n1, n2⟩ := hne p c' ho hc'
    exact ⟨ho.1, ho.2.1, by rw [gI_o n0 n1 n2]; exact ho.2.2⟩
  have hca : (g.1 6) c ≠ b ∧ (g.1 6) c ≠ b + 1 ∧ (g.1 6) c ≠ b + 2 := hne _ (14, c) ⟨a1, a2, a3⟩ (fun z => Nat.noConfusion z)
  have hidx : ∀ k, k ≠ c → k < 60 → k ≠ 60 * w + c ∧ 60 + k ≠ 60 * w + c := fun k hk h60 => by
    obtain rfl | rfl : w = 0 ∨ w = 1 := by omega
    · exact ⟨by omega, by omega⟩
    · exact ⟨by omega, by omega⟩
  refine ⟨⟨⟨s1, s2, lo_set s3 a1, fun a ha => ?_⟩, ⟨fun p c' hp => ?_, fun a y1 y2 => ?_, fun a ha => ?_⟩, fun a y1 y2 => ?_, bk_set bk a1, vr, kp, ft, flx, fw, fx⟩, ⟨i1, i2, i3, i4, i5, i6, i7, i8, i9, ⟨i10.1, fun c' hc' w' hw' => ?_⟩⟩, hms⟩
  · have ha' : h.1 ≤ a ∨ a < 146 := ha
    rw [gI_o (by omega) (by omega) (by omega)]
    exact s4 a ha
  · rcases hp with hp | hp | hp | hp | hp | hp | ⟨j', hj', hz, hl⟩ | hp
    · have hr : Ref0 g x.2 p c' := Or.inl hp
      exact htr p c' (pf.1 p c' hr) (ref_c0 hr)
    · have hr : Ref0 g x.2 p c' := Or.inr (Or.inl hp)
      exact htr p c' (pf.1 p c' hr) (ref_c0 hr)
    · have hr : Ref0 g x.2 p c' := Or.inr (Or.inr (Or.inl hp))
      exact htr p c' (pf.1 p c' hr) (ref_c0 hr)
    · have hr : Ref0 g x.2 p c' := Or.inr (Or.inr (Or.inr (Or.inl hp)))
      exact htr p c' (pf.1 p c' hr) (ref_c0 hr)
    · have hr : Ref0 g x.2 p c' := Or.inr (Or.inr (Or.inr (Or.inr (Or.inl hp))))
      exact htr p c' (pf.1 p c' hr) (ref_c0 hr)
    · have hr : Ref0 g x.2 p c' := Or.inr (Or.inr (Or.inr (Or.inr (Or.inr (Or.inl hp)))))
      exact htr p c' (pf.1 p c' hr) (ref_c0 hr)
    · by_cases e : j' = 60 * w + c
      · subst e
        rw [gI_s] at hl
        rcases hl with ⟨rfl, rfl⟩ | ⟨rfl, rfl⟩ | ⟨rfl, rfl⟩
        · exact ⟨hb, (by show p < h.1; omega), gI_0⟩
        · exact ⟨by omega, (by show b + 1 < h.1; omega), gI_1⟩
        · exact ⟨by omega, (by show b + 2 < h.1; omega), gI_2⟩
      · rw [gI_n e] at hz hl
        have hr : Ref0 g x.2 p c' := Or.inr (Or.inr (Or.inr (Or.inr (Or.inr (Or.inr (Or.inl ⟨j', hj', hz, hl⟩))))))
        exact htr p c' (pf.1 p c' hr) (ref_c0 hr)
    · have hr : Ref0 g x.2 p c' := Or.inr (Or.inr (Or.inr (Or.inr (Or.inr (Or.inr (Or.inr hp))))))
      exact htr p c' (pf.1 p c' hr) (ref_c0 hr)
  · by_cases n0 : a = b
    · rw [n0, gI_0] at y1
      exact absurd y1 (by show ¬ (15 : Nat) = 1; decide)
    by_cases n1 : a = b + 1
    · rw [n1, gI_1] at y1
      exact absurd y1 (by show ¬ (16 : Nat) = 1; decide)
    by_cases n2 : a = b + 2
    · rw [n2, gI_2] at y1
      exact absurd y1 (by show ¬ (17 : Nat) = 1; decide)
    rw [gI_o n0 n1 n2] at y1
    exact htr _ _ (pf.2.1 a y1 y2) (fun z => Nat.noConfusion z)
  · have hic : (gI g (60 * w + c) b).2.2.2.2.2 23 (60 * w + c) ≠ 0 := by rw [gI_s]; omega
    by_cases n0 : a = b
    · rw [n0, gI_0]
      have := ref_inc (g := gI g (60 * w + c) b) (x2 := x.2) (i := 60 * w + c) ⟨by omega, hic⟩
      rw [gI_s] at this
      exact this
    by_cases n1 : a = b + 1
    · rw [n1, gI_1]
      have := ref_ihe (g := gI g (60 * w + c) b) (x2 := x.2) (i := 60 * w + c) ⟨by omega, hic⟩
      rw [gI_s] at this
      exact this
    by_cases n2 : a = b + 2
    · rw [n2, gI_2]
      have := ref_iby (g := gI g (60 * w + c) b) (x2 := x.2) (i := 60 * w + c) ⟨by omega, hic⟩
      rw [gI_s] at this
      exact this
    rw [gI_o n0 n1 n2] at ha ⊢
    rcases pf.2.2 a ha with hp | hp | hp | hp | hp | hp | ⟨j', hj', hz, hl⟩ | hp
    · exact Or.inl hp
    · exact Or.inr (Or.inl hp)
    · exact Or.inr (Or.inr (Or.inl hp))
    · exact Or.inr (Or.inr (Or.inr (Or.inl hp)))
    · exact Or.inr (Or.inr (Or.inr (Or.inr (Or.inl hp))))
    · exact Or.inr (Or.inr (Or.inr (Or.inr (Or.inr (Or.inl hp)))))
    · have e : j' ≠ 60 * w + c := fun z => hz (by rw [z]; exact h0)
      refine Or.inr (Or.inr (Or.inr (Or.inr (Or.inr (Or.inr (Or.inl ⟨j', hj', ?_, ?_⟩))))))
      · rw [gI_n e]; exact hz
      · rw [gI_n e]; exact hl
    · exact Or.inr (Or.inr (Or.inr (Or.inr (Or.inr (Or.inr (Or.inr hp))))))
  · have y2' : a < h.1 := y2
    by_cases nc : a = (g.1 6) c
    · subst nc
      have e := gI_o (g := g) (j := 60 * w + c) hca.1 hca.2.1 hca.2.2
      rw [hs_s]
      refine cell_14 (by rw [e, a3]) ?_
      rw [e, a3]
      obtain ⟨-, -, -, -, -, -, -, -, -, -, -, -, -, c14, -⟩ := a4
      have cc := c14 (by rw [a3])
      rw [a3] at cc
      obtain ⟨t, q0, q1, q2, q3, q4, q5, q6, q7, q8, q9, q10, q11, q12, q13, q14, q15, q16⟩ := cc
      obtain rfl | rfl : w = 0 ∨ w = 1 := by omega
      · have e0 : (gI g (60 * 0 + c) b).2.2.2.2.2 23 c = b := by
          have := gI_s (g := g) (j := 60 * 0 + c) (b := b)
          rw [show 60 * 0 + c = c by omega] at this ⊢
          exact this
        have e1 : (gI g (60 * 0 + c) b).2.2.2.2.2 23 (60 + c) = (g.2.2.2.2.2 23) (60 + c) := gI_n (by omega)
        refine ⟨t, q0, q1, q2, q3, q4, q5, q6, q7, q8, q9, q10, q11, q12, q13, q14, ?_, ?_⟩
        · rw [e0, pv_n (by omega)]; rfl
        · rw [e1]; exact q16
      · have e0 : (gI g (60 * 1 + c) b).2.2.2.2.2 23 (60 + c) = b := by
          have := gI_s (g := g) (j := 60 * 1 + c) (b := b)
          rw [show 60 * 1 + c = 60 + c by omega] at this ⊢
          exact this
        have e1 : (gI g (60 * 1 + c) b).2.2.2.2.2 23 c = (g.2.2.2.2.2 23) c := gI_n (by omega)
        refine ⟨t, q0, q1, q2, q3, q4, q5, q6, q7, q8, q9, q10, q11, q12, q13, q14, ?_, ?_⟩
        · rw [e1]; exact q15
        · rw [e0, pv_n (by omega)]; rfl
    rw [hs_o _ _ nc]
    by_cases n0 : a = b
    · subst n0
      refine cell_15 (by rw [gI_0]) ?_
      rw [gI_0]
      show cInc a ((g.2.2.2.2.2 30) (60 * w + c)) ((g.2.2.2.2.2 31) (60 * w + c)) (fun p => (g.2.2.2.2.2 29) (10 * (60 * w + c) + p)) _
      rw [hbt]
      obtain ⟨z0, z1, z2, z3, ⟨u4, z4⟩, ⟨u5, z5⟩, z6, z7, z8⟩ := c15
      refine ⟨z0, z1, z2, z3, ⟨u4, z4, fun z => absurd rfl z⟩, ⟨u5, z5, fun z => ?_⟩, z6, z7, z8⟩
      unfold bt at z
      rw [Nat.zero_testBit] at z
      cases z
    by_cases n1 : a = b + 1
    · subst n1
      refine cell_16 (by rw [gI_1]) ?_
      rw [gI_1]
      show cInts 23 10 (fun p => if bt ((g.2.2.2.2.2 31) (60 * w + c)) p = true then 1 else 0) _
      rw [hbt]
      refine ⟨c16.1, c16.2.1, fun k hk => ?_⟩
      rw [c16.2.2 k hk]
      show Value.int 0 = Value.int (if Nat.testBit 0 k = true then 1 else 0)
      rw [Nat.zero_testBit]
      rfl
    by_cases n2 : a = b + 2
    · subst n2
      refine cell_17 (by rw [gI_2]) ?_
      rw [gI_2]
      show cIby ((g.2.2.2.2.2 31) (60 * w + c)) (fun p => (g.2.2.2.2.2 29) (10 * (60 * w + c) + p)) (fun k => (r.2.2.1 141) (240 * (60 * w + c) + k)) _
      rw [hbt]
      refine ⟨c17.1, c17.2.1, c17.2.2, fun p _ z => ?_⟩
      unfold bt at z
      rw [Nat.zero_testBit] at z
      cases z
    have e := gI_o (g := g) (j := 60 * w + c) n0 n1 n2
    obtain ⟨c1, c2, c3, c4, c5, c6, c7, c8, c9, c10, c11, c12, c13, c14, c15', c16', c17', c18⟩ := hC a y1 y2'
    unfold Cell
    rw [e]
    refine ⟨c1, c2, c3, c4, c5, c6, c7, c8, c9, c10, c11, c12, c13, fun z => ?_, c15', c16', c17', c18⟩
    have hj : (g.2.2.2.1 a).2 ≠ c := fun q => nc (uniq pf a3 (Prod.ext z q) (Nat.le_of_ble_eq_true rfl))
    have hlt := (ref_lt (pf.2.2 a (by omega))).2.2.1 z
    obtain ⟨k1, k2⟩ := hidx _ hj (by omega)
    have cc := c14 z
    rw [gI_n k1, gI_n k2]
    exact cc
  · obtain ⟨y1, y2, y3⟩ := i10.2 c' hc' w' hw'
    by_cases e : 60 * w' + c' = 60 * w + c
    · refine ⟨fun z => ?_, fun z => ?_, y3⟩
      · have z' : (g.1 0 5) ≤ c' := z
        omega
      · rw [e, gI_s] at z
        omega
    · rw [gI_n e]
      exact ⟨y1, y2, y3⟩
end
