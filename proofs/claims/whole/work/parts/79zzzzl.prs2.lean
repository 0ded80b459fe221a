/-! describe: both readers in step -/
/-- kinds, records, services; what kinds are of, fields, methods, arguments -/
abbrev pB : Type := (Nat → Nat) × (Nat → Nat → Nat)
def BKc (h : pheap) (R : Nat) (r : rS) (P : pB) : Prop :=
  ((h.2.2 (R + 1)).1 = 1 ∧ (h.2.2 (R + 1)).2.2 0 = .int (nI (P.1 0 - 1)) ∧ (h.2.2 (R + 1)).2.2 1 = .int (nI (P.1 1)) ∧ (h.2.2 (R + 1)).2.2 2 = .int (nI (P.1 2)) ∧ ∀ j, j < 10 → (h.2.2 (R + 1)).2.2 (3 + j) = .ref (R + 2 + j)) ∧
  ((h.2.2 (R + 2)).1 = 21 ∧ (h.2.2 (R + 2)).2.1 = 8 ∧ ∀ k, k < P.1 0 - 1 → (h.2.2 (R + 2)).2.2 k = .long ((r.2.2.2 75) (1 + k))) ∧
  ((h.2.2 (R + 3)).1 = 21 ∧ (h.2.2 (R + 3)).2.1 = 6 ∧ ∀ k, k < P.1 1 → (h.2.2 (R + 3)).2.2 k = .long ((r.2.2.2 77) (0 + k))) ∧
  ((h.2.2 (R + 4)).1 = 21 ∧ (h.2.2 (R + 4)).2.1 = 8 ∧ ∀ k, k < P.1 2 → (h.2.2 (R + 4)).2.2 k = .long ((r.2.2.2 81) (0 + k))) ∧
  ((h.2.2 (R + 5)).1 = 20 ∧ (h.2.2 (R + 5)).2.1 = 9 ∧ ∀ k, k < P.1 0 → (h.2.2 (R + 5)).2.2 k = .int (nI (P.2 0 k))) ∧
  ((h.2.2 (R + 6)).1 = 20 ∧ (h.2.2 (R + 6)).2.1 = 6 ∧ ∀ k, k < 6 → (h.2.2 (R + 6)).2.2 k = .int (nI (P.2 1 k))) ∧
  ((h.2.2 (R + 7)).1 = 20 ∧ (h.2.2 (R + 7)).2.1 = 36 ∧ ∀ k, k < P.1 1 → ∀ i, i < P.2 1 k → (h.2.2 (R + 7)).2.2 (6 * k + i) = .int ((r.2.2.1 80) (6 * k + i))) ∧
  ((h.2.2 (R + 8)).1 = 20 ∧ (h.2.2 (R + 8)).2.1 = 8 ∧ ∀ k, k < 8 → (h.2.2 (R + 8)).2.2 k = .int (nI (P.2 2 k))) ∧
  ((h.2.2 (R + 9)).1 = 20 ∧ (h.2.2 (R + 9)).2.1 = 64 ∧ ∀ k, k < P.1 2 → ∀ i, i < P.2 2 k → (h.2.2 (R + 9)).2.2 (8 * k + i) = .int ((r.2.2.1 84) (8 * k + i))) ∧
  ((h.2.2 (R + 10)).1 = 20 ∧ (h.2.2 (R + 10)).2.1 = 64 ∧ ∀ k, k < 64 → (h.2.2 (R + 10)).2.2 k = .int (nI (P.2 3 k))) ∧
  ((h.2.2 (R + 11)).1 = 20 ∧ (h.2.2 (R + 11)).2.1 = 192 ∧ ∀ k, k < P.1 2 → ∀ i, i < P.2 2 k → ∀ a, a < P.2 3 (8 * k + i) → (h.2.2 (R + 11)).2.2 (3 * (8 * k + i) + a) = .int ((r.2.2.1 86) (3 * (8 * k + i) + a))) ∧
  ((h.2.2 (R + 12)).1 = 21 ∧ (h.2.2 (R + 12)).2.1 = 8)
def BKr (r : rS) (P : pB) : Prop :=
  ((r.1 11) = nI (P.1 0) ∧ 1 ≤ P.1 0 ∧ P.1 0 ≤ 9) ∧ ((r.1 16) = nI (P.1 1) ∧ P.1 1 ≤ 6) ∧ ((r.1 23) = nI (P.1 2) ∧ P.1 2 ≤ 8) ∧
  (∀ k, k < P.1 0 → (r.2.2.1 76) k = nI (P.2 0 k) ∧ (k = 0 ∨ P.2 0 k < k)) ∧
  (∀ k, k < P.1 1 → (r.2.2.1 78) k = nI (P.2 1 k) ∧ P.2 1 k ≤ 6 ∧ ∀ i, i < P.2 1 k → isSrt (P.1 1) (P.1 2) ((r.2.2.1 80) (6 * k + i))) ∧
  (∀ k, k < P.1 2 → (r.2.2.1 82) k = nI (P.2 2 k) ∧ P.2 2 k ≤ 8 ∧ ∀ i, i < P.2 2 k → isSrt (P.1 1) (P.1 2) ((r.2.2.1 84) (8 * k + i)) ∧ (r.2.2.1 85) (8 * k + i) = nI (P.2 3 (8 * k + i)) ∧ P.2 3 (8 * k + i) ≤ 3 ∧ ∀ a, a < P.2 3 (8 * k + i) → isSrt (P.1 1) (P.1 2) ((r.2.2.1 86) (3 * (8 * k + i) + a))) ∧
  (∀ k, P.1 1 ≤ k → P.2 1 k = 0) ∧ (∀ k, P.1 2 ≤ k → P.2 2 k = 0) ∧ ∀ k i, i < 8 → (P.1 2 ≤ k ∨ P.2 2 k ≤ i) → P.2 3 (8 * k + i) = 0
/-- all that describe leaves alone -/
def RB (r rb : rS) : Prop := (∀ k, k ≠ 5 → k ≠ 6 → k ≠ 7 → k ≠ 4 → k ≠ 3 → k ≠ 11 → k ≠ 16 → k ≠ 23 → r.1 k = rb.1 k) ∧ (∀ a, a ≠ 76 → a ≠ 78 → a ≠ 80 → a ≠ 82 → a ≠ 84 → a ≠ 85 → a ≠ 86 → r.2.2.1 a = rb.2.2.1 a) ∧ (∀ a, a ≠ 75 → a ≠ 77 → a ≠ 79 → a ≠ 81 → a ≠ 83 → r.2.2.2 a = rb.2.2.2 a) ∧ (r.2.2.1 76) 0 = rb.2.2.1 76 0
/-- what is fixed -/
def PX (K : Nat → pcell) (tb : Nat) (g : gS) (rW : rS) (x : xS) (R N : Nat) (T : Nat → Int32) (A1 A2 : Nat) (h : pheap) : Prop := World K tb g rW x h ∧ (146 ≤ R ∧ R + 12 < h.1 ∧ ∀ j, j < 13 → g.2.2.2.1 (R + j) = (0, 0)) ∧ (N ≤ 1500 ∧ ∀ k, k < N → isB (T k) ∧ x.1 6 k = sb (T k)) ∧ (h.1 = A1 ∧ h.2.1 = A2) ∧ KR K
def PZ (K : Nat → pcell) (tb : Nat) (g : gS) (rW : rS) (x : xS) (R N : Nat) (T : Nat → Int32) (A1 A2 : Nat) (B : Nat → Value) (rb : rS) (P : pB) (h : pheap) (r : rS) (f q : Nat) (c t : Int32) (w : Int64) : Prop :=
  PX K tb g rW x R N T A1 A2 h ∧ h.2.2 R = (2, 9, rdC B R N 0 f q c w) ∧ (f ≤ q ∧ q ≤ N) ∧ ((r.1 1) = nI N ∧ (r.2.2.1 74) = T ∧ (r.1 5) = nI q ∧ (r.1 6) = nI f ∧ (r.1 7) = t ∧ (r.1 4) = 0 ∧ (r.1 3) = -1) ∧ (TRel c t r.2.1 ∧ (t = 2 → w = r.2.1)) ∧ BKc h R r P ∧ BKr r P ∧ RB r rb
/-- a fault was found -/
def PQ (K : Nat → pcell) (tb : Nat) (g : gS) (rW : rS) (x : xS) (R N : Nat) (T : Nat → Int32) (A1 A2 : Nat) (rb : rS) (h : pheap) (r : rS) : Prop :=
  PX K tb g rW x R N T A1 A2 h ∧ (h.2.2 R).1 = 2 ∧ (∃ f n, 1 ≤ n ∧ n ≤ 5 ∧ (h.2.2 R).2.2 1 = .int (nI n) ∧ (h.2.2 R).2.2 2 = .int (nI f) ∧ (r.1 4) = nI n ∧ (r.1 3) = nI f) ∧ RB r rb
section
variable {K : Nat → pcell} {tb : Nat} {g g' : gS} {r r' r0 rW rb : rS} {x x' : xS} {h h' : pheap} {d : Nat} {Q : Option Value → pheap → Prop} {B : Nat → Value} {R N f q i p n f0 a L A1 A2 : Nat} {fa c e b c0 u t gd m : Int32} {w v w0 : Int64} {T : Nat → Int32} {F : Nat → Int64} {P : pB}
theorem bkc_t (hb : BKc h R r P) (h1 : ∀ j, 1 ≤ j → j < 13 → h'.2.2 (R + j) = h.2.2 (R + j)) (h2 : r'.2.2 = r.2.2) : BKc h' R r' P := by
  unfold BKc
  rw [h1 1 (by omega) (by omega), h1 2 (by omega) (by omega), h1 3 (by omega) (by omega), h1 4 (by omega) (by omega), h1 5 (by omega) (by omega), h1 6 (by omega) (by omega), h1 7 (by omega) (by omega), h1 8 (by omega) (by omega), h1 9 (by omega) (by omega), h1 10 (by omega) (by omega), h1 11 (by omega) (by omega), h1 12 (by omega) (by omega), h2]
  exact hb
theorem px_C (hp : PX K tb g rW x R N T A1 A2 h) (F : Nat → Value) (ha : a < 13) : PX K tb g rW x R N T A1 A2 (hC h (R + a) F) := by
  obtain ⟨h1, ⟨h2, h3, h4⟩, h5, h6, h7⟩ := hp
  exact ⟨⟨sim_jC h1.1 (h4 a ha) (by omega) F, h1.2⟩, ⟨h2, h3, h4⟩, h5, h6, h7⟩
theorem px_s (hp : PX K tb g rW x R N T A1 A2 h) (ha : a < 13) (k : Nat) (v : Value) : PX K tb g rW x R N T A1 A2 (hset h (R + a) k v) := by
  obtain ⟨h1, ⟨h2, h3, h4⟩, h5, h6, h7⟩ := hp
  exact ⟨⟨sim_junk h1.1 (h4 a ha) (by omega) k v, h1.2⟩, ⟨h2, h3, h4⟩, h5, h6, h7⟩
/-- what one token more leaves -/
def ST (h' h : pheap) (r' r : rS) (R : Nat) : Prop := (∀ a, a ≠ R → h'.2.2 a = h.2.2 a) ∧ r'.2.2 = r.2.2 ∧ ∀ k, k ≠ 5 → k ≠ 6 → k ≠ 7 → r'.1 k = r.1 k
theorem pz_next (hz : PZ K tb g rW x R N T A1 A2 B rb P h r f q c t w) : ∃ h' r' f' q' c' t' w', PZ K tb g rW x R N T A1 A2 B rb P h' r' f' q' c' t' w' ∧ q ≤ q' ∧ (c' ≠ 0 → q < q') ∧ ST h' h r' r R ∧ (∀ d r0 Q, Go (d + 3) 13 0 [.ref R] [] (putR r0 (putX x h)) Q = Q none (putR r0 (putX x h'))) ∧ (∀ d (H : pheap) Q, 146 ≤ H.1 → Go (d + 3) 175 0 [.ref 73, mk0, mk0] [] (putR r H) Q = Q none (putR r' H)) := by
  obtain ⟨hx, hc, ⟨hf, hq⟩, ⟨k1, k2, k3, k4, k5, k6, k7⟩, ⟨k8, k9⟩, hb, hr, hrb⟩ := hz
  have hx' := hx
  obtain ⟨h1, ⟨h2, h3, h4⟩, ⟨h5, h5'⟩, h6, h7⟩ := hx'
  have hid : hC h R (rdC B R N 0 f q c w) = h := by
    have : (h.2.2 R).2.2 = rdC B R N 0 f q c w := by rw [hc]
    rw [← this]
    exact hC_i
  obtain ⟨f', q', c', t', w1, w', ⟨y1, y2, y3⟩, y4, y5, y6, y7, y8⟩ := nx_ok (B := B) (fa := 0) (f0 := f) (c0 := c) (w0 := w) (x := x) h7 (h1.1.1.2.2.1 2 (by omega)) (sim_146 h1.1) ⟨h2, by omega, by rw [hc]⟩ h5' h5 hq k1 k2 k3
  rw [hid] at y7
  have hx2 := px_C (a := 0) hx (rdC B R N 0 f' q' c' w') (by omega)
  rw [Nat.add_zero] at hx2
  refine ⟨hC h R (rdC B R N 0 f' q' c' w'), nxR r f' q' t' w1, f', q', c', t', w', ⟨hx2, by rw [hC_s, hc], ⟨y2, y3⟩, ⟨k1, k2, rfl, rfl, rfl, k6, k7⟩, ⟨y5, y6⟩, bkc_t hb (fun j j1 j2 => hC_o _ (by omega)) rfl, hr, ?_⟩, by omega, y4, ⟨fun a ha => hC_o _ ha, rfl, fun k q1 q2 q3 => nx_1 q1 q2 q3⟩, y7, y8⟩
  obtain ⟨b1, b2, b3, b4⟩ := hrb
  exact ⟨fun k q0 q1 q2 q3 q4 q5 q6 q7 => (nx_1 q0 q1 q2).trans (b1 k q0 q1 q2 q3 q4 q5 q6 q7), b2, b3, b4⟩
end
