/-! what holds while a message's values are read -/
section
variable {K : Nat → pcell} {tb : Nat} {g g' g0 g1 : gS} {r r' r0 : rS} {x x' x0 x1 : xS} {h h' h0 h1 : pheap} {d : Nat} {Q : Option Value → pheap → Prop} {a n k m rc b L n0 p j : Nat} {F : Nat → Int32} {l : List Nat} {s : Int32}
/-- what is as it was, up to nodes that are new -/
def GSm (g g0 : gS) (n0 : Nat) : Prop := (∀ k, k ≠ 1 → g.1 0 k = g0.1 0 k) ∧ (∀ a, a ≠ 0 → a ≠ 2 → g.1 a = g0.1 a) ∧ (∀ m, m < n0 → (g.1 2) m = (g0.1 2) m) ∧ g.2.2.2.2.1 = g0.2.2.2.2.1 ∧ (∀ a, a ≠ 11 → a ≠ 7 → g.2.2.2.2.2 a = g0.2.2.2.2.2 a) ∧ (∀ m, m < n0 → (g.2.2.2.2.2 11) m = (g0.2.2.2.2.2 11) m) ∧ ∀ i, i < 6 * n0 → (g.2.2.2.2.2 7) i = (g0.2.2.2.2.2 7) i
theorem gsm_t (p : GSm g g1 n0) (q : GSm g1 g0 n0) : GSm g g0 n0 := ⟨fun k hk => (p.1 k hk).trans (q.1 k hk), fun a h1 h2 => (p.2.1 a h1 h2).trans (q.2.1 a h1 h2), fun m hm => (p.2.2.1 m hm).trans (q.2.2.1 m hm), p.2.2.2.1.trans q.2.2.2.1, fun a h1 h2 => (p.2.2.2.2.1 a h1 h2).trans (q.2.2.2.2.1 a h1 h2), fun m hm => (p.2.2.2.2.2.1 m hm).trans (q.2.2.2.2.2.1 m hm), fun i hi => (p.2.2.2.2.2.2 i hi).trans (q.2.2.2.2.2.2 i hi)⟩
/-- old cells -/
def HSm (g1 : gS) (g g0 : gS) (h h0 : pheap) (B b : Nat) : Prop := ∀ a, a < B → g1.2.2.2.1 a ≠ (4, 2) → g.2.2.2.1 a = g0.2.2.2.1 a ∧ g.2.1 a = g0.2.1 a ∧ g.2.2.1 a = g0.2.2.1 a ∧ (a ≠ b → h.2.2 a = h0.2.2 a)
/-- the fixed part: what was before, the Incoming b with its message -/
def CB (K : Nat → pcell) (tb : Nat) (g0 : gS) (x0 : xS) (h0 : pheap) (b L : Nat) (F : Nat → Int32) (n0 j : Nat) (g : gS) (r : rS) (x : xS) (h : pheap) : Prop :=
  World K tb g r x h ∧ RD h b L F ∧ (h.2.2 b).2.2 1 = .int (nI n0) ∧ (n0 ≤ (g.1 0 1) ∧ ∀ k, n0 ≤ k → k < (g.1 0 1) → h0.1 ≤ (g.1 2) k) ∧ GSm g g0 n0 ∧ (h0.1 ≤ h.1 ∧ b + 2 < h0.1) ∧ HSm g0 g g0 h h0 h0.1 b ∧
  ((h.2.2 b).1 = (h0.2.2 b).1 ∧ (h.2.2 b).2.1 = (h0.2.2 b).2.1 ∧ ∀ k, k ≠ 1 → k ≠ 2 → k ≠ 5 → (h.2.2 b).2.2 k = (h0.2.2 b).2.2 k) ∧ (∀ a k, a ≠ 20 → x.1 a k = x0.1 a k) ∧ (∀ q, q ≠ 2 → x.2 q = x0.2 q) ∧ (j < 120 ∧ (g0.2.2.2.2.2 23) j = b ∧ b ≠ 0 ∧ g0.2.2.2.1 b = (15, j) ∧ g0.2.2.2.1 (b + 2) = (17, j))
theorem rd_c (hr : RD h b L F) (h1 : h.1 ≤ h'.1) (e1 : h'.2.2 b = h.2.2 b) (e2 : h'.2.2 (b + 2) = h.2.2 (b + 2)) : RD h' b L F := by
  obtain ⟨a1, a2, a3, a4, a5, a6, a7, a8, a9⟩ := hr
  exact ⟨a1, by omega, by rw [e1]; exact a3, by rw [e1]; exact a4, by rw [e1]; exact a5, by rw [e2]; exact a6, by rw [e2]; exact a7, a8, by rw [e2]; exact a9⟩
/-- one step, that changes no old cell -/
theorem cb_step (hc : CB K tb g0 x0 h0 b L F n0 j g r x h) (hw : World K tb g' r' x' h') (hg : GSm g' g n0) (h1 : h.1 ≤ h'.1) (hs : HSm g0 g' g h' h h0.1 h0.1) (hx1 : ∀ a k, a ≠ 20 → x'.1 a k = x.1 a k) (hx2 : ∀ q, q ≠ 2 → x'.2 q = x.2 q) (hn : (g.1 0 1) ≤ (g'.1 0 1) ∧ (∀ k, n0 ≤ k → k < (g.1 0 1) → (g'.1 2) k = (g.1 2) k) ∧ ∀ k, (g.1 0 1) ≤ k → k < (g'.1 0 1) → h0.1 ≤ (g'.1 2) k) : CB K tb g0 x0 h0 b L F n0 j g' r' x' h' := by
  obtain ⟨c1, c2, c3, ⟨c4, c5⟩, c6, ⟨c7, c8⟩, c9, ⟨c10, c11, c12⟩, c13, c14, c15⟩ := hc
  obtain ⟨d1, d2, d3, d4, d5⟩ := c15
  have e1 : h'.2.2 b = h.2.2 b := (hs b (by omega) (by rw [d4]; exact fun z => by cases z)).2.2.2 (by omega)
  have e2 : h'.2.2 (b + 2) = h.2.2 (b + 2) := (hs (b + 2) (by omega) (by rw [d5]; exact fun z => by cases z)).2.2.2 (by omega)
  refine ⟨hw, rd_c c2 h1 e1 e2, by rw [e1]; exact c3, ⟨by omega, fun k k1 k2 => ?_⟩, gsm_t hg c6, ⟨by omega, c8⟩, fun a ha h4 => ?_, ⟨by rw [e1]; exact c10, by rw [e1]; exact c11, by rw [e1]; exact c12⟩, fun a k ha => (hx1 a k ha).trans (c13 a k ha), fun q hq => (hx2 q hq).trans (c14 q hq), ⟨d1, d2, d3, d4, d5⟩⟩
  · by_cases e : k < (g.1 0 1)
    · rw [hn.2.1 k k1 e]
      exact c5 k k1 e
    · exact hn.2.2 k (by omega) k2
  · obtain ⟨y1, y2, y3, y4⟩ := hs a ha h4
    obtain ⟨z1, z2, z3, z4⟩ := c9 a ha h4
    exact ⟨y1.trans z1, y2.trans z2, y3.trans z3, fun hab => (y4 (by omega)).trans (z4 hab)⟩
/-- numbers of the Incoming -/
theorem cb_at (hc : CB K tb g0 x0 h0 b L F n0 j g r x h) (hk : k = 2 ∨ k = 5) (v : Int32) : CB K tb g0 x0 h0 b L F n0 j g r x (hset h b k (.int v)) := by
  obtain ⟨c1, c2, c3, c4, c6, ⟨c7, c8⟩, c9, ⟨c10, c11, c12⟩, c13, c14, ⟨d1, d2, d3, d4, d5⟩⟩ := hc
  have hic : (g.2.2.2.2.2 23) j = b := by
    rw [c6.2.2.2.2.1 _ (by decide) (by decide)]
    exact d2
  have hw := w_at c1 (j := j) (k := k) ⟨d1, by rw [hic]; exact d3⟩ (Or.inr hk) v
  rw [hic] at hw
  refine ⟨hw, rd_set c2 (by omega) (by omega), ?_, c4, c6, ⟨c7, c8⟩, fun a ha h4 => ?_, ⟨by rw [hs_s]; exact c10, by rw [hs_s]; exact c11, fun q q1 q2 q5 => ?_⟩, c13, c14, ⟨d1, d2, d3, d4, d5⟩⟩
  · rw [hs_s]
    show updV _ k _ 1 = _
    rw [uv_o _ _ (by omega)]
    exact c3
  · obtain ⟨z1, z2, z3, z4⟩ := c9 a ha h4
    exact ⟨z1, z2, z3, fun hab => (hs_o _ _ hab).trans (z4 hab)⟩
  · rw [hs_s]
    show updV _ k _ q = _
    rw [uv_o _ _ (by omega)]
    exact c12 q q1 q2 q5
theorem gsm_r : GSm g g n0 := ⟨fun _ _ => rfl, fun _ _ _ => rfl, fun _ _ => rfl, rfl, fun _ _ _ => rfl, fun _ _ => rfl, fun _ _ => rfl⟩
/-- a new Value -/
theorem cb_val (hc : CB K tb g0 x0 h0 b L F n0 j g r x h) {v : Int64} {t : Nat} (ht : t ≠ 0 → okP g.2.2.2.1 h.1 t (2, 0)) : CB K tb g0 x0 h0 b L F n0 j (gW g h.1 s v t) r x (mkV h s v t) := by
  have h01 : h0.1 ≤ h.1 := hc.2.2.2.2.2.1.1
  exact cb_step hc (w_mkV hc.1 ht) gsm_r (by rw [mkV_1]; omega) (fun a ha _ => ⟨gP_rn (by omega), gP_vn (by omega), gP_an (by omega), fun _ => mkV_o (by omega)⟩) (fun _ _ _ => rfl) (fun _ _ => rfl) ⟨Nat.le_refl _, fun _ _ _ => rfl, fun k k1 k2 => absurd k2 (by show ¬ k < (g.1 0 1); omega)⟩
/-- a new node -/
theorem cb_node (hc : CB K tb g0 x0 h0 b L F n0 j g r x h) (hw : World K tb g' r' x' h') (hn : NN g' g x' x h' h rc) : CB K tb g0 x0 h0 b L F n0 j g' r' x' h' := by
  have h01 : h0.1 ≤ h.1 := hc.2.2.2.2.2.1.1
  have hnn : n0 ≤ (g.1 0 1) := hc.2.2.2.1.1
  have hs9 := hc.2.2.2.2.2.2.1
  obtain ⟨⟨a1, a2, a3, a4, a5⟩, ⟨b1, b2, b3, b4, b5⟩, c, ⟨d1, d2, d3⟩, e1, e2⟩ := hn
  refine cb_step hc hw ⟨a5, a4, fun m hm => a3 m (by omega), b1, b2, fun m hm => b4 m (by omega), fun i hi => b5 i (by omega)⟩ (by omega) (fun a ha h4 => ?_) e1 e2 ⟨by omega, fun k k1 k2 => a3 k (by omega), fun k k1 k2 => ?_⟩
  · obtain ⟨y1, y2, y3, y4⟩ := c a (by omega) (by rw [(hs9 a ha h4).1]; exact h4)
    exact ⟨y1, y2, y3, fun _ => y4⟩
  · rw [show k = (g.1 0 1) by omega, a2]
    exact h01
/-- a field of a new node -/
theorem cb_set (hc : CB K tb g0 x0 h0 b L F n0 j g r x h) (hm0 : n0 ≤ m) (hm : m < (g.1 0 1)) {N : Nat → Int64} {Le T : Nat → Int32} (hw : World K tb (gN g 7 (6 * m + k) a) (rwR r N Le T) x (hset h ((g.1 2) m + 1) k (.ref a))) : CB K tb g0 x0 h0 b L F n0 j (gN g 7 (6 * m + k) a) (rwR r N Le T) x (hset h ((g.1 2) m + 1) k (.ref a)) := by
  have hnd := hc.2.2.2.1.2 m hm0 hm
  refine cb_step hc hw ⟨fun _ _ => rfl, fun _ _ _ => rfl, fun _ _ => rfl, rfl, fun a _ h2 => upN_n _ _ h2, fun _ _ => rfl, fun i hi => ?_⟩ (by rw [hs_1]; omega) (fun a ha _ => ⟨rfl, rfl, rfl, fun _ => hs_o _ _ (by omega)⟩) (fun _ _ _ => rfl) (fun _ _ => rfl) ⟨Nat.le_refl _, fun _ _ _ => rfl, fun k k1 k2 => absurd k2 (by show ¬ k < (g.1 0 1); omega)⟩
  show upN ((g.2.2.2.2.2 7)) (6 * m + k) a i = _
  rw [upN_n _ _ (by omega)]
end
