theorem hd5_i (f : Nat → Int32) (b : Nat) (v0 v1 v2 v3 v4 : Int32) : hd5 f b v0 v1 v2 v3 v4 b = v0 ∧ hd5 f b v0 v1 v2 v3 v4 (b + 1) = v1 ∧ hd5 f b v0 v1 v2 v3 v4 (b + 2) = v2 ∧ hd5 f b v0 v1 v2 v3 v4 (b + 3) = v3 ∧ hd5 f b v0 v1 v2 v3 v4 (b + 4) = v4 := by
  unfold hd5
  refine ⟨?_, ?_, ?_, ?_, upN_s _ _ _⟩
  · rw [upN_n _ _ (by omega), upN_n _ _ (by omega), upN_n _ _ (by omega), upN_n _ _ (by omega), upN_s]
  · rw [upN_n _ _ (by omega), upN_n _ _ (by omega), upN_n _ _ (by omega), upN_s]
  · rw [upN_n _ _ (by omega), upN_n _ _ (by omega), upN_s]
  · rw [upN_n _ _ (by omega), upN_s]
theorem hd5_o (f : Nat → Int32) {b k : Nat} (v0 v1 v2 v3 v4 : Int32) (h : k < b ∨ b + 5 ≤ k) : hd5 f b v0 v1 v2 v3 v4 k = f k := by
  unfold hd5
  rw [upN_n _ _ (by omega), upN_n _ _ (by omega), upN_n _ _ (by omega), upN_n _ _ (by omega), upN_n _ _ (by omega)]
theorem isB_n {n : Nat} (h : n < 256) : isB (nI n) := ⟨n, h, rfl⟩
theorem sA_A (r : rS) (a i : Nat) (v w : Int32) : sA (sA r a i v) a i w = sA r a i w := by
  unfold sA
  dsimp only
  rw [upN_s, upN_u, upN_u]
section
variable {K : Nat → pcell} {tb : Nat} {g g' g0 : gS} {r r' r0 : rS} {x x' : xS} {h h' : pheap} {d : Nat} {Q : Option Value → pheap → Prop}
/-- a slot may be so, whatever else its bytes are -/
def slP (g : gS) (w c M z p : Nat) (B req ans : Nat → Int32) : Prop := ∀ f : Nat → Int32, f 1 = nI w → f 2 = nI c → f 3 = nI p → f 4 = nI M → (∀ k, k < cS z p → f (5 + k) = B (24 * p + k)) → slM g f (5 + cS z p) req ans
theorem w_part (hw : World K tb g r x h) {A D T w c p M z first : Nat} {B : Nat → Int32} (hD : D < 8) (hT : T < 8) (hw3 : w < 3) (hc : c < 60) (hM : M ≤ 10) (hp : p < M) (hz : z ≤ 240) (hA : A ≠ 139 ∧ A ≠ 140 ∧ A ≠ 97) (hB : ∀ k, k < z → r.2.2.1 A (first + k) = B k ∧ isB (B k)) (hm : slP g w c M z p B ((r.2.2.1 123)) ((r.2.2.1 127))) :
    World K tb (addG (roomG g) (5 + cS z p)) (prtR r (g.2.2.2.2.1 0) A first D T w c p M z) (addX (roomX x (g.2.2.2.2.1 0)) (roomN (g.2.2.2.2.1 0)) ((roomG g).2.2.2.2.2 27 (roomN (g.2.2.2.2.1 0))) (wrF (hd5 ((roomX x (g.2.2.2.2.1 0)).1 (28 + (roomG g).2.2.2.2.2 27 (roomN (g.2.2.2.2.1 0)))) 0 (sb (nI (D * 16 + T))) (sb (nI w)) (sb (nI c)) (sb (nI p)) (sb (nI M))) (fun k => sb (B (24 * p + k))) 5 (cS z p)) (5 + cS z p)) h := by
  obtain ⟨c1, c2, c3⟩ := w_ns hw
  have hr := w_room hw
  have hnn := roomN_l c2
  have hcs : cS z p ≤ 24 ∧ (cS z p ≠ 0 → 24 * p + cS z p ≤ z) := by unfold cS; omega
  have hn : (roomG g).2.2.2.2.1 0 = roomN (g.2.2.2.2.1 0) := rfl
  obtain ⟨y1, y2, y3, y4, y5⟩ := hd5_i ((roomR r (g.2.2.2.2.1 0)).2.2.1 139) (32 * roomN (g.2.2.2.2.1 0)) (nI (16 * D + T)) (nI w) (nI c) (nI p) (nI M)
  have hS : ∀ k, k < 5 → prtS r (g.2.2.2.2.1 0) A first D T w c p M z (32 * roomN (g.2.2.2.2.1 0) + k) = hd5 ((roomR r (g.2.2.2.2.1 0)).2.2.1 139) (32 * roomN (g.2.2.2.2.1 0)) (nI (16 * D + T)) (nI w) (nI c) (nI p) (nI M) (32 * roomN (g.2.2.2.2.1 0) + k) := fun k hk => wrF_o _ _ (by omega)
  have hS2 : ∀ k, k < cS z p → prtS r (g.2.2.2.2.1 0) A first D T w c p M z (32 * roomN (g.2.2.2.2.1 0) + (5 + k)) = B (24 * p + k) := fun k hk => by
    unfold prtS
    rw [show 32 * roomN (g.2.2.2.2.1 0) + (5 + k) = 32 * roomN (g.2.2.2.2.1 0) + 5 + k by omega, wrF_i _ _ hk, Nat.add_assoc first]
    exact (hB (24 * p + k) (by omega)).1
  have e := w_add hr (F := wrF (hd5 ((roomX x (g.2.2.2.2.1 0)).1 (28 + (roomG g).2.2.2.2.2 27 (roomN (g.2.2.2.2.1 0)))) 0 (sb (nI (D * 16 + T))) (sb (nI w)) (sb (nI c)) (sb (nI p)) (sb (nI M))) (fun k => sb (B (24 * p + k))) 5 (cS z p)) (S := prtS r (g.2.2.2.2.1 0) A first D T w c p M z) (z := 5 + cS z p) (by rw [hn]; exact hnn) (by omega)
    (fun q hq => by
      rw [hn] at hq
      unfold prtS
      rw [wrF_o _ _ (by omega), hd5_o _ _ _ _ _ _ (by omega)])
    (fun k hk => by
      rw [hn]
      obtain ⟨u1, u2, u3, u4, u5⟩ := hd5_i ((roomX x (g.2.2.2.2.1 0)).1 (28 + (roomG g).2.2.2.2.2 27 (roomN (g.2.2.2.2.1 0)))) 0 (sb (nI (D * 16 + T))) (sb (nI w)) (sb (nI c)) (sb (nI p)) (sb (nI M))
      by_cases h5 : k < 5
      · rw [hS k h5, wrF_o _ _ (Or.inl h5)]
        rcases k with _ | _ | _ | _ | _ | k
        · rw [Nat.add_zero, y1, u1, show D * 16 + T = 16 * D + T by omega]; exact ⟨isB_n (by omega), rfl⟩
        · rw [y2]; exact ⟨isB_n (by omega), u2⟩
        · rw [y3]; exact ⟨isB_n (by omega), u3⟩
        · rw [y4]; exact ⟨isB_n (by omega), u4⟩
        · rw [y5]; exact ⟨isB_n (by omega), u5⟩
        · omega
      · obtain ⟨j, rfl⟩ : ∃ j, k = 5 + j := ⟨k - 5, by omega⟩
        rw [hS2 j (by omega), wrF_i _ _ (by omega)]
        exact ⟨(hB (24 * p + j) (by omega)).2, rfl⟩)
    (by
      rw [hn]
      have hq : (roomR r (g.2.2.2.2.1 0)).2.2.1 123 = (r.2.2.1 123) := (rsm_room r (g.2.2.2.2.1 0)).2.2.1 _ (by decide) (by decide) (by decide)
      have ha : (roomR r (g.2.2.2.2.1 0)).2.2.1 127 = (r.2.2.1 127) := (rsm_room r (g.2.2.2.2.1 0)).2.2.1 _ (by decide) (by decide) (by decide)
      rw [hq, ha]
      refine slM_cor (cor_room g) (hm _ ?_ ?_ ?_ ?_ hS2)
      · exact (hS 1 (by omega)).trans y2
      · exact (hS 2 (by omega)).trans y3
      · exact (hS 3 (by omega)).trans y4
      · exact (hS 4 (by omega)).trans y5)
  exact e
theorem prtR_s (r : rS) {n A first D T w c p M z : Nat} (hA : A ≠ 97) (v : Int32) : prtR (sA r 97 D v) n A first D T w c p M z = sA (prtR r n A first D T w c p M z) 97 D v := by
  have e1 : prtS (sA r 97 D v) n A first D T w c p M z = prtS r n A first D T w c p M z := by
    unfold prtS
    rw [roomR_s, sA_a _ _ _ hA, sA_a _ _ _ (by decide)]
  unfold prtR
  rw [roomR_s, e1, addR_s]
theorem rsm_prt (r : rS) (n A first D T w c p M z : Nat) : RSm (prtR r n A first D T w c p M z) r ∧ (prtR r n A first D T w c p M z).2.2.1 97 = (r.2.2.1 97) := by
  refine ⟨rsm_t (rsm_add _ _ _ _) (rsm_room r n), ?_⟩
  unfold prtR roomR
  split
  · rfl
  · rfl
end
