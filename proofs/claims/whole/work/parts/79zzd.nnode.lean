/-! a node more, as a message brings it -/
section
variable {K : Nat → pcell} {tb : Nat} {g g' g0 g1 : gS} {r r' r0 : rS} {x x' x1 : xS} {h h' h1 : pheap} {d : Nat} {Q : Option Value → pheap → Prop} {a n k m rc : Nat} {fs : Nat → Int32} {fl : Nat → Nat}
/-- what a new node leaves as it was -/
def NN (g' g : gS) (x' x : xS) (h' h : pheap) (rc : Nat) : Prop := ((g'.1 0 1) = (g.1 0 1) + 1 ∧ (g'.1 2) (g.1 0 1) = h.1 ∧ (∀ m, m ≠ (g.1 0 1) → (g'.1 2) m = (g.1 2) m) ∧ (∀ a, a ≠ 0 → a ≠ 2 → g'.1 a = g.1 a) ∧ ∀ k, k ≠ 1 → g'.1 0 k = g.1 0 k) ∧
  (g'.2.2.2.2.1 = g.2.2.2.2.1 ∧ (∀ a, a ≠ 11 → a ≠ 7 → g'.2.2.2.2.2 a = g.2.2.2.2.2 a) ∧ (g'.2.2.2.2.2 11) (g.1 0 1) = rc ∧ (∀ m, m ≠ (g.1 0 1) → (g'.2.2.2.2.2 11) m = (g.2.2.2.2.2 11) m) ∧ ∀ i, i < 6 * (g.1 0 1) → (g'.2.2.2.2.2 7) i = (g.2.2.2.2.2 7) i) ∧
  (∀ b, b < h.1 → g.2.2.2.1 b ≠ (4, 2) → g'.2.2.2.1 b = g.2.2.2.1 b ∧ g'.2.1 b = g.2.1 b ∧ g'.2.2.1 b = g.2.2.1 b ∧ h'.2.2 b = h.2.2 b) ∧
  (h.1 + 1 < h'.1 ∧ h'.1 ≤ h.1 + 9 ∧ h'.2.1 ≤ h.2.1 + 126) ∧ (∀ a k, a ≠ 20 → x'.1 a k = x.1 a k) ∧ ∀ q, q ≠ 2 → x'.2 q = x.2 q
theorem nodG_va {b c : Nat} : ∀ k, (c < b + 2 ∨ b + 2 + k ≤ c) → (nodG g b fs k).2.1 c = g.2.1 c ∧ (nodG g b fs k).2.2.1 c = g.2.2.1 c
  | 0, _ => ⟨rfl, rfl⟩
  | k + 1, hc => by
    obtain ⟨y1, y2⟩ := nodG_va (b := b) (c := c) k (by omega)
    unfold nodG gW
    exact ⟨(gP_vn (by omega)).trans y1, (gP_an (by omega)).trans y2⟩
theorem nnode_ok (hw : World K tb g r x h) (hrc : rc < (g.2.2.2.2.1 2)) (hn : (g.1 0 1) < 60) : ∃ g' x' h' H, World K tb g' (ndR r (g.1 0 1) rc ((g.2.2.2.2.2 8) rc) (fun i => (r.2.2.1 80) (6 * rc + i))) x' h' ∧ NN g' g x' x h' h rc ∧ (h.1 < H.1 ∧ 146 ≤ H.1 ∧ (H.2.2 h.1).1 = 7) ∧ (∀ d r0 Q, Go (d + 4) 38 0 [.ref h.1, .int (nI rc), .ref (x.2 0), mk0] [] (putR r0 (putX x (hnew h 7 2 (fun k => dflF (fkd (1000 * 7 + k)))))) Q = Q none (putR r0 (putX x H))) ∧ (∀ d r0 Q, Go (d + 6) 41 0 [.ref 20, .ref h.1] [] (putR r0 (putX x H)) Q = Q (some (.int 1)) (putR r0 (putX x' h'))) := by
  have hh := sim_146 hw.1
  obtain ⟨n1, n2, n3⟩ := w_nn hw
  obtain ⟨f1, f2, f3⟩ := (w_book hw).2.2.2.1 rc hrc
  have hN := w_nodH hw (rc := nI rc) (n := (g.2.2.2.2.2 8) rc) (fs := fun i => (r.2.2.1 80) (6 * rc + i)) ((g.2.2.2.2.2 8) rc)
  have k1 := nodH_1 (h := h) (n := (g.2.2.2.2.2 8) rc) (fs := fun i => (r.2.2.1 80) (6 * rc + i)) (rc := nI rc) ((g.2.2.2.2.2 8) rc)
  have ku := nodH_u (h := h) (n := (g.2.2.2.2.2 8) rc) (fs := fun i => (r.2.2.1 80) (6 * rc + i)) (rc := nI rc) ((g.2.2.2.2.2 8) rc)
  have kn := nodH_n (h := h) (n := (g.2.2.2.2.2 8) rc) (fs := fun i => (r.2.2.1 80) (6 * rc + i)) (rc := rc) ((g.2.2.2.2.2 8) rc)
  have ka := nodH_a (h := h) (n := (g.2.2.2.2.2 8) rc) (fs := fun i => (r.2.2.1 80) (6 * rc + i)) (rc := nI rc) ((g.2.2.2.2.2 8) rc)
  have klo := fun b (hb : b < h.1) => nodH_lo (h := h) (n := (g.2.2.2.2.2 8) rc) (fs := fun i => (r.2.2.1 80) (6 * rc + i)) (rc := nI rc) hb ((g.2.2.2.2.2 8) rc)
  obtain ⟨y1, y2⟩ := nodG_g (g := g) (b := h.1) (fs := fun i => (r.2.2.1 80) (6 * rc + i)) ((g.2.2.2.2.2 8) rc)
  have yr := fun c hc => nodG_ro (g := g) (b := h.1) (c := c) (fs := fun i => (r.2.2.1 80) (6 * rc + i)) ((g.2.2.2.2.2 8) rc) hc
  have yva := fun c hc => nodG_va (g := g) (b := h.1) (c := c) (fs := fun i => (r.2.2.1 80) (6 * rc + i)) ((g.2.2.2.2.2 8) rc) hc
  have yv := nodG_v (g := g) (b := h.1) (fs := fun i => (r.2.2.1 80) (6 * rc + i)) ((g.2.2.2.2.2 8) rc)
  have hrun0 := fun d r0 Q => x_newNode (d := d) (r0 := r0) (Q := Q) (n := (g.2.2.2.2.2 8) rc) (fs := fun i => (r.2.2.1 80) (6 * rc + i)) hw hrc rfl (fun i _ => rfl)
  generalize nodH h (nI rc) ((g.2.2.2.2.2 8) rc) (fun i => (r.2.2.1 80) (6 * rc + i)) ((g.2.2.2.2.2 8) rc) = H at hN k1 ku kn ka hrun0 klo
  generalize nodG g h.1 (fun i => (r.2.2.1 80) (6 * rc + i)) ((g.2.2.2.2.2 8) rc) = G at hN y1 y2 yr yv yva
  have z0 : G.1 0 1 = (g.1 0 1) := by rw [y1]
  obtain ⟨g1, x1, h2, hg, hrun⟩ := add_node hN.1 (a := h.1) (by rw [z0]; omega) hh (by rw [k1]; omega) (by rw [kn.1]; decide) (by rw [kn.1]; decide)
  have hw1 := w_grw hN hg
  obtain ⟨-, g2, g3, g4, g5, g6, g7, g8, g9, g10, g11, g12, g13, g14⟩ := hg
  have hw2 := w_scr hw1 (a := 20) (k := 0) (Or.inr (Or.inr (Or.inr ⟨by omega, by omega, rfl⟩))) (x.1 20 0 + 1)
  have hnn : (g1.1 0 1) = (g.1 0 1) := by rw [g2, y1]
  have hrn : (g1.2.2.2.2.1 2) = (g.2.2.2.2.1 2) := by rw [g5, y2]
  have hfc : (g1.2.2.2.2.2 8) rc = (g.2.2.2.2.2 8) rc := by rw [g5, y2]
  have hr0 : ∀ b, b < H.1 → (G.2.2.2.1 b).1 ≠ 4 → g1.2.2.2.1 b = G.2.2.2.1 b := fun b hb h4 => g6 b hb (fun z => h4 (by rw [z]))
  have hz0 : G.2.2.2.1 h.1 = (0, 0) := by rw [yr _ (by omega)]; exact sim_top hw.1 (by omega)
  have hz1 : G.2.2.2.1 (h.1 + 1) = (0, 0) := by rw [yr _ (by omega)]; exact sim_top hw.1 (by omega)
  have hw3 := w_node (a := h.1) (n := (g.1 0 1)) (rc := rc) (m := (g.2.2.2.2.2 8) rc) (fs := fun i => (r.2.2.1 80) (6 * rc + i)) (fl := fun i => h.1 + 2 + i) hw2 hnn.symm hn g9 (by rw [← z0]; exact g10) (by rw [hrn]; exact hrc) hfc.symm (fun i _ => rfl) hh (by omega) (by rw [hr0 _ (by omega) (by rw [hz0]; decide)]; exact hz0) (by rw [hr0 _ (by omega) (by rw [hz1]; decide)]; exact hz1) (by rw [g11 _ (by omega)]; exact kn) (by rw [g11 _ (by omega)]; exact ka) (fun i hi => by
    obtain ⟨w1, w2⟩ := yv i hi
    refine ⟨⟨by omega, by omega, ?_⟩, ?_⟩
    · rw [hr0 _ (by omega) (by rw [w1]; decide)]; exact w1
    · rw [g3]; exact w2)
  have hel := hw1.1.2.1.1 _ _ (ref_el (g := g1) (x2 := x1.2) (q := 2) (by decide) (by decide) (by omega))
  refine ⟨_, _, _, H, hw3, ⟨⟨rfl, upN_s _ _ _, fun m hm => ?_, fun a a0 a2 => ?_, fun k hk => ?_⟩, ⟨?_, fun a a1 a2 => ?_, ?_, fun m hm => ?_, fun i hi => ?_⟩, fun b hb hb4 => ?_, ⟨?_, ?_, ?_⟩, fun a k ha => ?_, fun q hq => g8 q hq⟩, ⟨by omega, by omega, kn.1⟩, hrun0, fun d r0 Q => ?_⟩
  · show upN (g1.1 2) (g.1 0 1) h.1 m = _
    rw [upN_n _ _ hm, g2, y1]
  · show upN (upN g1.1 0 _) 2 _ a = _
    rw [upN_n _ _ a2, upN_n _ _ a0, g2, y1]
  · show upN (g1.1 0) 1 ((g.1 0 1) + 1) k = _
    rw [upN_n _ _ hk, g2, y1]
  · show g1.2.2.2.2.1 = _
    rw [g5, y2]
  · show upN (upN g1.2.2.2.2.2 11 _) 7 _ a = _
    rw [upN_n _ _ a2, upN_n _ _ a1, g5, y2]
  · show upN ((g1.2.2.2.2.2 11)) (g.1 0 1) rc (g.1 0 1) = rc
    rw [upN_s]
  · show upN ((g1.2.2.2.2.2 11)) (g.1 0 1) rc m = _
    rw [upN_n _ _ hm, g5, y2]
  · show wrN ((g1.2.2.2.2.2 7)) _ (6 * (g.1 0 1)) ((g.2.2.2.2.2 8) rc) i = _
    unfold wrN
    rw [if_neg (by omega), g5, y2]
  · have e1 : G.2.2.2.1 b = g.2.2.2.1 b := yr b (by omega)
    have e2 : g1.2.2.2.1 b = G.2.2.2.1 b := g6 b (by omega) (by rw [e1]; exact hb4)
    have hbe : b ≠ x1.2 2 := fun z => by
      have := hel.2.2
      rw [← z, e2, e1] at this
      exact hb4 this
    refine ⟨?_, ?_, ?_, ?_⟩
    · show upN (upN g1.2.2.2.1 h.1 _) (h.1 + 1) _ b = _
      rw [upN_n _ _ (by omega), upN_n _ _ (by omega), e2, e1]
    · show g1.2.1 b = _
      rw [g3]
      exact (yva b (by omega)).1
    · show g1.2.2.1 b = _
      rw [g4]
      exact (yva b (by omega)).2
    · show (hset h2 (x1.2 2) (g.1 0 1) (.ref h.1)).2.2 b = _
      rw [hs_o _ _ hbe, g11 b (by omega), klo b hb]
  · rw [hs_1]; omega
  · rw [hs_1]; omega
  · rw [hs_u]; omega
  · rw [tI_ne _ _ (by omega), tI_ne _ _ (by omega), g7]
  · have := hrun d r0 Q
    rw [z0] at this
    exact this
end
