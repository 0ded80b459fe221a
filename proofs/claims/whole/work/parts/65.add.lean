/-- what a list's growing leaves -/
def Grw (K : Nat → pcell) (g : gS) (r : rS) (x : xS) (h : pheap) (q : Nat) (g1 : gS) (x1 : xS) (h1 : pheap) : Prop :=
  Sim K g1 r x1 h1 ∧ g1.1 = g.1 ∧ g1.2.1 = g.2.1 ∧ g1.2.2.1 = g.2.2.1 ∧ g1.2.2.2.2 = g.2.2.2.2 ∧ (∀ b, b < h.1 → g.2.2.2.1 b ≠ (4, q) → g1.2.2.2.1 b = g.2.2.2.1 b) ∧ x1.1 = x.1 ∧ (∀ k, k ≠ q → x1.2 k = x.2 k) ∧ 146 ≤ x1.2 q ∧ g.1 0 (q - 1) < (h1.2.2 (x1.2 q)).2.1 ∧ (∀ b, b < h.1 → h1.2.2 b = h.2.2 b) ∧ h.1 ≤ h1.1 ∧ h1.1 ≤ h.1 + 1 ∧ h1.2.1 ≤ h.2.1 + 100
section
variable {K : Nat → pcell} {tb : Nat} {g g' g0 : gS} {r r' r0 : rS} {x x' : xS} {h h' : pheap} {d : Nat} {Q : Option Value → pheap → Prop} {a n : Nat}
theorem grw_0 (hs : Sim K g r x h) {q : Nat} (he : 146 ≤ x.2 q) (hc : g.1 0 (q - 1) < (h.2.2 (x.2 q)).2.1) : Grw K g r x h q g x h := ⟨hs, rfl, rfl, rfl, rfl, fun _ _ _ => rfl, rfl, fun _ _ => rfl, he, hc, fun _ _ => rfl, by omega, by omega, by omega⟩
theorem grw_1 (hs : Sim K g r x h) {q c : Nat} {f : Nat → Value} (h1 : 1 ≤ q) (h7 : q < 7) (hc : g.1 0 (q - 1) < c ∧ c ≤ 100) (hf : ∀ k, k < g.1 0 (q - 1) → f k = .ref (g.1 q k)) : Grw K g r x h q (gR (gR g (x.2 q) (0, 0)) h.1 (4, q)) (tR x q h.1) (hnew h 24 c f) := by
  have hel := @sim_cell _ _ _ _ _ hs (x.2 q) (4, q)
  have hh := sim_146 hs
  refine ⟨sim_grow hs h1 h7 ⟨by omega, by omega, hc.2⟩ hf, rfl, rfl, rfl, rfl, fun b hb hn => ?_, rfl, fun k hk => tR_n _ _ hk, by rw [tR_s]; exact hh, by rw [tR_s, hn_s]; exact hc.1, fun b hb => hn_o _ _ _ (by omega), by rw [hn_1]; omega, by rw [hn_1]; omega, by rw [hn_u]; omega⟩
  rw [gR_n _ _ (by omega)]
  by_cases e : b = x.2 q
  · subst e
    rw [gR_s]
    by_cases hx : x.2 q = 1
    · exact (sim_low hs (by omega)).symm
    · exact absurd (hel (ref_el h1 h7 hx)).2.2.1 hn
  · rw [gR_n _ _ e]
theorem add_hand (hs : Sim K g r x h) (hn : (g.1 0 0) ≤ 60) (ha : 146 ≤ a) (ha2 : a < h.1) (ha3 : 0 < (h.2.2 a).1) (ha4 : (h.2.2 a).1 < 14) : ∃ g1 x1 h1, Grw K g r x h 1 g1 x1 h1 ∧ ∀ d r0 Q, Go (d + 6) 41 0 [.ref 19, .ref a] [] (putR r0 (putX x h)) Q = Q (some (.int 1)) (putR r0 (putX (tI (tI x1 19 0 (x.1 19 0 + 1)) 19 2 (nI ((g.1 0 0) + 1))) (hset h1 (x1.2 1) (g.1 0 0) (.ref a)))) := by
  have hh := sim_146 hs
  have hK := hs.1.2.1
  have hlo := hs.1.2.2.1
  obtain ⟨l1, l2, l3, l4, l5, l6, l7, l8⟩ := sim_lst hs (q := 1) (by decide) (by decide) hn
  by_cases hx : x.2 1 = 1
  · have h0 : (g.1 0 0) = 0 := by
      rcases l3 with l3 | l3
      · exact l3.2
      · omega
    refine ⟨_, _, _, grw_1 (q := 1) (c := 10) (f := fun _ => .null) hs (by decide) (by decide) ⟨by show (g.1 0 0) < 10; omega, by omega⟩ (fun k hk => absurd hk (by show ¬ k < (g.1 0 0); omega)), fun d r0 Q => ?_⟩
    rw [h0] at l1
    rw [tR_s, h0]
    exact x_addC_hand hh l1 hx (by rw [hlo 1 (by omega)]; exact hK.1) (by rw [hlo 1 (by omega)]; exact hK.2.1) ha ha2 ha3 ha4
  · have he : 146 ≤ x.2 1 := by omega
    obtain ⟨e1, e2, e3, -, -, -, e4, -⟩ := sim_cell hs (ref_el (g := g) (q := 1) (by decide) (by decide) hx)
    rw [e3] at e4
    obtain ⟨f1, f2, f3, f4⟩ := e4 rfl
    have f2' : (g.1 0 0) ≤ (h.2.2 (x.2 1)).2.1 := f2
    by_cases hc : (g.1 0 0) < (h.2.2 (x.2 1)).2.1
    · exact ⟨g, x, h, grw_0 hs he hc, fun d r0 Q => x_addA_hand hh l1 he e2 f1 hc f3.2 ha ha2 ha3 ha4⟩
    · have hc' : (g.1 0 0) = (h.2.2 (x.2 1)).2.1 := by omega
      have hcap : capN (g.1 0 0) ≤ 100 ∧ (g.1 0 0) < capN (g.1 0 0) := by unfold capN; split <;> omega
      refine ⟨_, _, _, grw_1 (q := 1) (c := capN (g.1 0 0)) (f := cpyF (h.2.2 (x.2 1)).2.2 0 (min (g.1 0 0) (capN (g.1 0 0))) .null) hs (by decide) (by decide) ⟨hcap.2, hcap.1⟩ (fun k hk => ?_), fun d r0 Q => ?_⟩
      · have hk' : k < (g.1 0 0) := hk
        show (if k < min (g.1 0 0) (capN (g.1 0 0)) then _ else _) = _
        rw [if_pos (by omega), Nat.zero_add]
        exact f4 k hk
      · rw [tR_s]
        exact x_addB_hand hh l1 he e2 f1 hc' (by omega) hn ha ha2 ha3 ha4
theorem add_node (hs : Sim K g r x h) (hn : (g.1 0 1) ≤ 60) (ha : 146 ≤ a) (ha2 : a < h.1) (ha3 : 0 < (h.2.2 a).1) (ha4 : (h.2.2 a).1 < 14) : ∃ g1 x1 h1, Grw K g r x h 2 g1 x1 h1 ∧ ∀ d r0 Q, Go (d + 6) 41 0 [.ref 20, .ref a] [] (putR r0 (putX x h)) Q = Q (some (.int 1)) (putR r0 (putX (tI (tI x1 20 0 (x.1 20 0 + 1)) 20 2 (nI ((g.1 0 1) + 1))) (hset h1 (x1.2 2) (g.1 0 1) (.ref a)))) := by
  have hh := sim_146 hs
  have hK := hs.1.2.1
  have hlo := hs.1.2.2.1
  obtain ⟨l1, l2, l3, l4, l5, l6, l7, l8⟩ := sim_lst hs (q := 2) (by decide) (by decide) hn
  by_cases hx : x.2 2 = 1
  · have h0 : (g.1 0 1) = 0 := by
      rcases l3 with l3 | l3
      · exact l3.2
      · omega
    refine ⟨_, _, _, grw_1 (q := 2) (c := 10) (f := fun _ => .null) hs (by decide) (by decide) ⟨by show (g.1 0 1) < 10; omega, by omega⟩ (fun k hk => absurd hk (by show ¬ k < (g.1 0 1); omega)), fun d r0 Q => ?_⟩
    rw [h0] at l1
    rw [tR_s, h0]
    exact x_addC_node hh l1 hx (by rw [hlo 1 (by omega)]; exact hK.1) (by rw [hlo 1 (by omega)]; exact hK.2.1) ha ha2 ha3 ha4
  · have he : 146 ≤ x.2 2 := by omega
    obtain ⟨e1, e2, e3, -, -, -, e4, -⟩ := sim_cell hs (ref_el (g := g) (q := 2) (by decide) (by decide) hx)
    rw [e3] at e4
    obtain ⟨f1, f2, f3, f4⟩ := e4 rfl
    have f2' : (g.1 0 1) ≤ (h.2.2 (x.2 2)).2.1 := f2
    by_cases hc : (g.1 0 1) < (h.2.2 (x.2 2)).2.1
    · exact ⟨g, x, h, grw_0 hs he hc, fun d r0 Q => x_addA_node hh l1 he e2 f1 hc f3.2 ha ha2 ha3 ha4⟩
    · have hc' : (g.1 0 1) = (h.2.2 (x.2 2)).2.1 := by omega
      have hcap : capN (g.1 0 1) ≤ 100 ∧ (g.1 0 1) < capN (g.1 0 1) := by unfold capN; split <;> omega
      refine ⟨_, _, _, grw_1 (q := 2) (c := capN (g.1 0 1)) (f := cpyF (h.2.2 (x.2 2)).2.2 0 (min (g.1 0 1) (capN (g.1 0 1))) .null) hs (by decide) (by decide) ⟨hcap.2, hcap.1⟩ (fun k hk => ?_), fun d r0 Q => ?_⟩
      · have hk' : k < (g.1 0 1) := hk
        show (if k < min (g.1 0 1) (capN (g.1 0 1)) then _ else _) = _
        rw [if_pos (by omega), Nat.zero_add]
        exact f4 k hk
      · rw [tR_s]
        exact x_addB_node hh l1 he e2 f1 hc' (by omega) hn ha ha2 ha3 ha4
theorem add_fai (hs : Sim K g r x h) (hn : (g.1 0 2) ≤ 60) (ha : 146 ≤ a) (ha2 : a < h.1) (ha3 : 0 < (h.2.2 a).1) (ha4 : (h.2.2 a).1 < 14) : ∃ g1 x1 h1, Grw K g r x h 3 g1 x1 h1 ∧ ∀ d r0 Q, Go (d + 6) 41 0 [.ref 21, .ref a] [] (putR r0 (putX x h)) Q = Q (some (.int 1)) (putR r0 (putX (tI (tI x1 21 0 (x.1 21 0 + 1)) 21 2 (nI ((g.1 0 2) + 1))) (hset h1 (x1.2 3) (g.1 0 2) (.ref a)))) := by
  have hh := sim_146 hs
  have hK := hs.1.2.1
  have hlo := hs.1.2.2.1
  obtain ⟨l1, l2, l3, l4, l5, l6, l7, l8⟩ := sim_lst hs (q := 3) (by decide) (by decide) hn
  by_cases hx : x.2 3 = 1
  · have h0 : (g.1 0 2) = 0 := by
      rcases l3 with l3 | l3
      · exact l3.2
      · omega
    refine ⟨_, _, _, grw_1 (q := 3) (c := 10) (f := fun _ => .null) hs (by decide) (by decide) ⟨by show (g.1 0 2) < 10; omega, by omega⟩ (fun k hk => absurd hk (by show ¬ k < (g.1 0 2); omega)), fun d r0 Q => ?_⟩
    rw [h0] at l1
    rw [tR_s, h0]
    exact x_addC_fai hh l1 hx (by rw [hlo 1 (by omega)]; exact hK.1) (by rw [hlo 1 (by omega)]; exact hK.2.1) ha ha2 ha3 ha4
  · have he : 146 ≤ x.2 3 := by omega
    obtain ⟨e1, e2, e3, -, -, -, e4, -⟩ := sim_cell hs (ref_el (g := g) (q := 3) (by decide) (by decide) hx)
    rw [e3] at e4
    obtain ⟨f1, f2, f3, f4⟩ := e4 rfl
    have f2' : (g.1 0 2) ≤ (h.2.2 (x.2 3)).2.1 := f2
    by_cases hc : (g.1 0 2) < (h.2.2 (x.2 3)).2.1
    · exact ⟨g, x, h, grw_0 hs he hc, fun d r0 Q => x_addA_fai hh l1 he e2 f1 hc f3.2 ha ha2 ha3 ha4⟩
    · have hc' : (g.1 0 2) = (h.2.2 (x.2 3)).2.1 := by omega
      have hcap : capN (g.1 0 2) ≤ 100 ∧ (g.1 0 2) < capN (g.1 0 2) := by unfold capN; split <;> omega
      refine ⟨_, _, _, grw_1 (q := 3) (c := capN (g.1 0 2)) (f := cpyF (h.2.2 (x.2 3)).2.2 0 (min (g.1 0 2) (capN (g.1 0 2))) .null) hs (by decide) (by decide) ⟨hcap.2, hcap.1⟩ (fun k hk => ?_), fun d r0 Q => ?_⟩
      · have hk' : k < (g.1 0 2) := hk
        show (if k < min (g.1 0 2) (capN (g.1 0 2)) then _ else _) = _
        rw [if_pos (by omega), Nat.zero_add]
        exact f4 k hk
      · rw [tR_s]
        exact x_addB_fai hh l1 he e2 f1 hc' (by omega) hn ha ha2 ha3 ha4
theorem add_desk (hs : Sim K g r x h) (hn : (g.1 0 3) ≤ 60) (ha : 146 ≤ a) (ha2 : a < h.1) (ha3 : 0 < (h.2.2 a).1) (ha4 : (h.2.2 a).1 < 14) : ∃ g1 x1 h1, Grw K g r x h 4 g1 x1 h1 ∧ ∀ d r0 Q, Go (d + 6) 41 0 [.ref 22, .ref a] [] (putR r0 (putX x h)) Q = Q (some (.int 1)) (putR r0 (putX (tI (tI x1 22 0 (x.1 22 0 + 1)) 22 2 (nI ((g.1 0 3) + 1))) (hset h1 (x1.2 4) (g.1 0 3) (.ref a)))) := by
  have hh := sim_146 hs
  have hK := hs.1.2.1
  have hlo := hs.1.2.2.1
  obtain ⟨l1, l2, l3, l4, l5, l6, l7, l8⟩ := sim_lst hs (q := 4) (by decide) (by decide) hn
  by_cases hx : x.2 4 = 1
  · have h0 : (g.1 0 3) = 0 := by
      rcases l3 with l3 | l3
      · exact l3.2
      · omega
    refine ⟨_, _, _, grw_1 (q := 4) (c := 10) (f := fun _ => .null) hs (by decide) (by decide) ⟨by show (g.1 0 3) < 10; omega, by omega⟩ (fun k hk => absurd hk (by show ¬ k < (g.1 0 3); omega)), fun d r0 Q => ?_⟩
    rw [h0] at l1
    rw [tR_s, h0]
    exact x_addC_desk hh l1 hx (by rw [hlo 1 (by omega)]; exact hK.1) (by rw [hlo 1 (by omega)]; exact hK.2.1) ha ha2 ha3 ha4
  · have he : 146 ≤ x.2 4 := by omega
    obtain ⟨e1, e2, e3, -, -, -, e4, -⟩ := sim_cell hs (ref_el (g := g) (q := 4) (by decide) (by decide) hx)
    rw [e3] at e4
    obtain ⟨f1, f2, f3, f4⟩ := e4 rfl
    have f2' : (g.1 0 3) ≤ (h.2.2 (x.2 4)).2.1 := f2
    by_cases hc : (g.1 0 3) < (h.2.2 (x.2 4)).2.1
    · exact ⟨g, x, h, grw_0 hs he hc, fun d r0 Q => x_addA_desk hh l1 he e2 f1 hc f3.2 ha ha2 ha3 ha4⟩
    · have hc' : (g.1 0 3) = (h.2.2 (x.2 4)).2.1 := by omega
      have hcap : capN (g.1 0 3) ≤ 100 ∧ (g.1 0 3) < capN (g.1 0 3) := by unfold capN; split <;> omega
      refine ⟨_, _, _, grw_1 (q := 4) (c := capN (g.1 0 3)) (f := cpyF (h.2.2 (x.2 4)).2.2 0 (min (g.1 0 3) (capN (g.1 0 3))) .null) hs (by decide) (by decide) ⟨hcap.2, hcap.1⟩ (fun k hk => ?_), fun d r0 Q => ?_⟩
      · have hk' : k < (g.1 0 3) := hk
        show (if k < min (g.1 0 3) (capN (g.1 0 3)) then _ else _) = _
        rw [if_pos (by omega), Nat.zero_add]
        exact f4 k hk
      · rw [tR_s]
        exact x_addB_desk hh l1 he e2 f1 hc' (by omega) hn ha ha2 ha3 ha4
theorem add_thing (hs : Sim K g r x h) (hn : (g.1 0 4) ≤ 60) (ha : 146 ≤ a) (ha2 : a < h.1) (ha3 : 0 < (h.2.2 a).1) (ha4 : (h.2.2 a).1 < 14) : ∃ g1 x1 h1, Grw K g r x h 5 g1 x1 h1 ∧ ∀ d r0 Q, Go (d + 6) 41 0 [.ref 23, .ref a] [] (putR r0 (putX x h)) Q = Q (some (.int 1)) (putR r0 (putX (tI (tI x1 23 0 (x.1 23 0 + 1)) 23 2 (nI ((g.1 0 4) + 1))) (hset h1 (x1.2 5) (g.1 0 4) (.ref a)))) := by
  have hh := sim_146 hs
  have hK := hs.1.2.1
  have hlo := hs.1.2.2.1
  obtain ⟨l1, l2, l3, l4, l5, l6, l7, l8⟩ := sim_lst hs (q := 5) (by decide) (by decide) hn
  by_cases hx : x.2 5 = 1
  · have h0 : (g.1 0 4) = 0 := by
      rcases l3 with l3 | l3
      · exact l3.2
      · omega
    refine ⟨_, _, _, grw_1 (q := 5) (c := 10) (f := fun _ => .null) hs (by decide) (by decide) ⟨by show (g.1 0 4) < 10; omega, by omega⟩ (fun k hk => absurd hk (by show ¬ k < (g.1 0 4); omega)), fun d r0 Q => ?_⟩
    rw [h0] at l1
    rw [tR_s, h0]
    exact x_addC_thing hh l1 hx (by rw [hlo 1 (by omega)]; exact hK.1) (by rw [hlo 1 (by omega)]; exact hK.2.1) ha ha2 ha3 ha4
  · have he : 146 ≤ x.2 5 := by omega
    obtain ⟨e1, e2, e3, -, -, -, e4, -⟩ := sim_cell hs (ref_el (g := g) (q := 5) (by decide) (by decide) hx)
    rw [e3] at e4
    obtain ⟨f1, f2, f3, f4⟩ := e4 rfl
    have f2' : (g.1 0 4) ≤ (h.2.2 (x.2 5)).2.1 := f2
    by_cases hc : (g.1 0 4) < (h.2.2 (x.2 5)).2.1
    · exact ⟨g, x, h, grw_0 hs he hc, fun d r0 Q => x_addA_thing hh l1 he e2 f1 hc f3.2 ha ha2 ha3 ha4⟩
    · have hc' : (g.1 0 4) = (h.2.2 (x.2 5)).2.1 := by omega
      have hcap : capN (g.1 0 4) ≤ 100 ∧ (g.1 0 4) < capN (g.1 0 4) := by unfold capN; split <;> omega
      refine ⟨_, _, _, grw_1 (q := 5) (c := capN (g.1 0 4)) (f := cpyF (h.2.2 (x.2 5)).2.2 0 (min (g.1 0 4) (capN (g.1 0 4))) .null) hs (by decide) (by decide) ⟨hcap.2, hcap.1⟩ (fun k hk => ?_), fun d r0 Q => ?_⟩
      · have hk' : k < (g.1 0 4) := hk
        show (if k < min (g.1 0 4) (capN (g.1 0 4)) then _ else _) = _
        rw [if_pos (by omega), Nat.zero_add]
        exact f4 k hk
      · rw [tR_s]
        exact x_addB_thing hh l1 he e2 f1 hc' (by omega) hn ha ha2 ha3 ha4
theorem add_call (hs : Sim K g r x h) (hn : (g.1 0 5) ≤ 60) (ha : 146 ≤ a) (ha2 : a < h.1) (ha3 : 0 < (h.2.2 a).1) (ha4 : (h.2.2 a).1 < 14) : ∃ g1 x1 h1, Grw K g r x h 6 g1 x1 h1 ∧ ∀ d r0 Q, Go (d + 6) 41 0 [.ref 24, .ref a] [] (putR r0 (putX x h)) Q = Q (some (.int 1)) (putR r0 (putX (tI (tI x1 24 0 (x.1 24 0 + 1)) 24 2 (nI ((g.1 0 5) + 1))) (hset h1 (x1.2 6) (g.1 0 5) (.ref a)))) := by
  have hh := sim_146 hs
  have hK := hs.1.2.1
  have hlo := hs.1.2.2.1
  obtain ⟨l1, l2, l3, l4, l5, l6, l7, l8⟩ := sim_lst hs (q := 6) (by decide) (by decide) hn
  by_cases hx : x.2 6 = 1
  · have h0 : (g.1 0 5) = 0 := by
      rcases l3 with l3 | l3
      · exact l3.2
      · omega
    refine ⟨_, _, _, grw_1 (q := 6) (c := 10) (f := fun _ => .null) hs (by decide) (by decide) ⟨by show (g.1 0 5) < 10; omega, by omega⟩ (fun k hk => absurd hk (by show ¬ k < (g.1 0 5); omega)), fun d r0 Q => ?_⟩
    rw [h0] at l1
    rw [tR_s, h0]
    exact x_addC_call hh l1 hx (by rw [hlo 1 (by omega)]; exact hK.1) (by rw [hlo 1 (by omega)]; exact hK.2.1) ha ha2 ha3 ha4
  · have he : 146 ≤ x.2 6 := by omega
    obtain ⟨e1, e2, e3, -, -, -, e4, -⟩ := sim_cell hs (ref_el (g := g) (q := 6) (by decide) (by decide) hx)
    rw [e3] at e4
    obtain ⟨f1, f2, f3, f4⟩ := e4 rfl
    have f2' : (g.1 0 5) ≤ (h.2.2 (x.2 6)).2.1 := f2
    by_cases hc : (g.1 0 5) < (h.2.2 (x.2 6)).2.1
    · exact ⟨g, x, h, grw_0 hs he hc, fun d r0 Q => x_addA_call hh l1 he e2 f1 hc f3.2 ha ha2 ha3 ha4⟩
    · have hc' : (g.1 0 5) = (h.2.2 (x.2 6)).2.1 := by omega
      have hcap : capN (g.1 0 5) ≤ 100 ∧ (g.1 0 5) < capN (g.1 0 5) := by unfold capN; split <;> omega
      refine ⟨_, _, _, grw_1 (q := 6) (c := capN (g.1 0 5)) (f := cpyF (h.2.2 (x.2 6)).2.2 0 (min (g.1 0 5) (capN (g.1 0 5))) .null) hs (by decide) (by decide) ⟨hcap.2, hcap.1⟩ (fun k hk => ?_), fun d r0 Q => ?_⟩
      · have hk' : k < (g.1 0 5) := hk
        show (if k < min (g.1 0 5) (capN (g.1 0 5)) then _ else _) = _
        rw [if_pos (by omega), Nat.zero_add]
        exact f4 k hk
      · rw [tR_s]
        exact x_addB_call hh l1 he e2 f1 hc' (by omega) hn ha ha2 ha3 ha4
end
