section
variable {K : Nat → pcell} {tb : Nat} {g g' g0 g1 : gS} {r r' r0 v : rS} {x x' x0 x1 : xS} {h h' h0 h1 : pheap} {d : Nat} {Q : Option Value → pheap → Prop} {a n k m rc b L n0 p q j t c c2 c3 no : Nat} {F fs : Nat → Int32} {l : List Nat} {s z : Int32} {w u : Int64} {os fc : Nat → Nat}
theorem nl_add {a b : Nat} (ha : a < 100000) (hb : b < 100000) : (nI a).toInt64 + (nI b).toInt64 = (nI (a + b)).toInt64 := by
  apply Int64.toInt_inj.mp
  rw [Int64.toInt_add, Int32.toInt_toInt64, Int32.toInt_toInt64, Int32.toInt_toInt64, ni_int (by omega), ni_int (by omega), ni_int (by omega), Int.bmod_eq_of_le (by omega) (by omega)]
  omega
/-- what the class has of an item -/
def IV (g' : gS) (a ce : Nat) (s : Int32) (w : Int64) (z : Int32) (F : Nat → Int32) (p : Nat) : Prop := ∀ N Le T, N ce = w → Le ce = z → (∀ m, z = nI m → m ≤ 16 → ∀ k, k < m → T (16 * ce + k) = F (p + 1 + k)) → VR g' N Le T a s ce
theorem is_mk (hc : CB K tb g0 x0 h0 b L F n0 j g v x h) (hs : s ≠ 4 → u = w) (hz : z = -1) : CB K tb g0 x0 h0 b L F n0 j (gW g h.1 s u 0) v x (mkV (hset h b 5 (.int (nI q))) s u 0) ∧ VRd (gW g h.1 s u 0) g (mkV (hset h b 5 (.int (nI q))) s u 0) h b s w ∧ ((mkV (hset h b 5 (.int (nI q))) s u 0).2.2 b).2.2 5 = .int (nI q) ∧ ∀ ce, IV (gW g h.1 s u 0) h.1 ce s w z F p := by
  obtain ⟨h01, hb, hb1⟩ := cb_lo hc
  have k1 := cb_val (cb_at hc (k := 5) (Or.inr rfl) (nI q)) (s := s) (v := u) (t := 0) (fun y => absurd rfl y)
  rw [hs_1] at k1
  have e : (mkV (hset h b 5 (.int (nI q))) s u 0).2.2 b = (hset h b 5 (.int (nI q))).2.2 b := mkV_o (by rw [hs_1]; omega)
  refine ⟨k1, ⟨gP_ro, by unfold gW; rw [gP_va], fun y => ?_, by rw [mkV_1, hs_1]; omega, by rw [mkV_1, hs_1]; omega, by rw [mkV_u, hs_u]; omega, ?_, rfl, rfl, fun a ha => ⟨gP_rn (by omega), gP_vn (by omega), gP_an (by omega)⟩⟩, ?_, fun ce N Le T y1 y2 y3 => ?_⟩
  · unfold gW
    rw [gP_va]
    exact ⟨hs y, rfl⟩
  · rw [e, hs_s]
    dsimp only
    rw [uv_o _ _ (show (2 : Nat) ≠ 5 by decide)]
  · rw [e, hs_s]
    dsimp only
    rw [uv_s]
  · unfold VR gW
    rw [gP_va]
    exact ⟨rfl, fun y => ⟨(hs y).trans y1.symm, rfl⟩, fun _ => Or.inl ⟨rfl, y2.trans hz⟩⟩
/-- the class reads an item without a node -/
theorem is_cls (hc : CB K tb g0 x0 h0 b L F n0 j g v x h) (h5 : (h.2.2 b).2.2 5 = .int (nI p)) (h2 : (h.2.2 b).2.2 2 = .int 0) (hi : IS no os F n0 l s p q w z) (hq : q ≤ L) (hs : isSrt (g.2.2.2.2.1 2) (g.2.2.2.2.1 3) s) : ∃ g' h', CB K tb g0 x0 h0 b L F n0 j g' v x h' ∧ VRd g' g h' h b s w ∧ (h'.2.2 b).2.2 5 = .int (nI q) ∧ (∀ ce, IV g' h.1 ce s w z F p) ∧ ∀ d r0 Q, Go (d + 4) 144 0 [.ref b, .int s, .ref c2, .ref c3, mk0, mk0, mk0, mk0] [] (putR r0 (putX x h)) Q = Q (some (.ref h.1)) (putR r0 (putX x h')) := by
  have hh := sim_146 hc.1.1
  obtain ⟨h01, hb, hb1⟩ := cb_lo hc
  have hr := hc.2.1
  have hrn := (w_rn hc.1).2
  have hsn := (w_sn hc.1).2
  have hnn := (w_nn hc.1).2.1
  have hn0 : n0 ≤ (g.1 0 1) := hc.2.2.2.1.1
  unfold IS at hi
  rcases hi with ⟨hs0, h1, h3, h4⟩ | ⟨hs0, h1, h3, h4⟩ | ⟨hs0, hF, h1, h3, h4⟩ | ⟨hs0, hF, h1, h3, h4⟩ | ⟨hs0, m, hF, hm, h1, h3, h4⟩ | ⟨hno, h⟩
  · subst hs0 h1
    obtain ⟨y1, y2, y3, y4⟩ := is_mk (q := p + 4) (p := p) hc (s := 0) (u := w) (w := w) (z := z) (fun _ => rfl) h4
    refine ⟨_, _, y1, y2, y3, y4, fun d r0 Q => ?_⟩
    rw [h3]
    exact (x_rvN (d := d + 1) (n := 4) (s := 0) (p := p) (L := L) (F := F) hh hr h5 h2 (Or.inl ⟨rfl, rfl⟩) hq).trans (by rw [if_pos rfl])
  · subst h1
    have hne : s ≠ 0 := fun y => by rw [y] at hs0; rcases hs0 with e | e <;> exact absurd e (by decide)
    obtain ⟨y1, y2, y3, y4⟩ := is_mk (q := p + 8) (p := p) hc (s := s) (u := w) (w := w) (z := z) (fun _ => rfl) h4
    refine ⟨_, _, y1, y2, y3, y4, fun d r0 Q => ?_⟩
    rw [h3]
    exact (x_rvN (d := d + 1) (n := 8) (s := s) (p := p) (L := L) (F := F) hh hr h5 h2 (by rcases hs0 with e | e; exact Or.inr (Or.inl ⟨e, rfl⟩); exact Or.inr (Or.inr (Or.inl ⟨e, rfl⟩))) hq).trans (by rw [if_neg hne])
  · subst hs0 h1
    obtain ⟨y1, y2, y3, y4⟩ := is_mk (q := p + 1) (p := p) hc (s := 3) (u := w) (w := w) (z := z) (fun _ => rfl) h4
    refine ⟨_, _, y1, y2, y3, y4, fun d r0 Q => ?_⟩
    rw [h3]
    exact (x_rvN (d := d + 1) (n := 1) (s := 3) (p := p) (L := L) (F := F) hh hr h5 h2 (Or.inr (Or.inr (Or.inr ⟨rfl, rfl⟩))) hq).trans (by rw [if_neg (by decide), nb_1])
  · subst hs0 h1
    obtain ⟨y1, y2, y3, y4⟩ := is_mk (q := p + 1) (p := p) hc (s := 4) (u := 0) (w := w) (z := z) (fun y => absurd rfl y) h4
    exact ⟨_, _, y1, y2, y3, y4, fun d r0 Q => x_rvT0 hh hr h5 h2 hF (by omega)⟩
  · subst hs0 h1
    obtain ⟨g', h', y1, y2, y3, y4, y5, y6⟩ := x_rvT (c2 := c2) (c3 := c3) hc h5 h2 hF hm hq
    obtain ⟨z1, z2, z3, z4⟩ := y2
    refine ⟨g', h', y1, ⟨z1, z2, fun y => absurd rfl y, z4⟩, y3, fun ce N Le T u1 u2 u3 => ?_, y6⟩
    unfold VR
    refine ⟨z2, fun y => absurd rfl y, fun _ => Or.inr ?_⟩
    rw [y4, y5]
    refine ⟨by omega, hm, u2.trans h4, fun k hk => ?_⟩
    have hk' : k < m := hk
    rw [u3 m h4 hm k hk']
    exact ⟨(hr.2.2.2.2.2.2.2.2 (p + 1 + k) (by omega)).2, rfl⟩
  · rcases h with ⟨hF, h1, h3, h4⟩ | ⟨h20, hF, o, hFo, ho, hso, h1, h3, h4⟩ | ⟨h20, hF, m, hFm, hm, hl, h1, h3, h4⟩
    · subst h1
      have hzv : zv s = -1 := by
        unfold zv
        refine if_pos ?_
        rcases srt_cases hs hno hrn hsn with ⟨-, k, hk, rfl⟩ | ⟨-, k, hk, rfl⟩
        · show nI 10 ≤ nI (20 + k)
          rw [ni_le (by omega) (by omega)]
          omega
        · show nI 10 ≤ nI (10 + k)
          rw [ni_le (by omega) (by omega)]
          omega
      obtain ⟨y1, y2, y3, y4⟩ := is_mk (q := p + 1) (p := p) hc (s := s) (u := w) (w := w) (z := z) (fun _ => rfl) h4
      refine ⟨_, _, y1, y2, y3, y4, fun d r0 Q => ?_⟩
      rw [h3]
      exact (x_rvS (d := d) hh hr h5 h2 hno (by omega) (Or.inl hF)).trans (by rw [if_pos hF, hzv])
    · subst h1
      obtain ⟨y1, y2, y3, y4⟩ := is_mk (q := p + 1) (p := p) hc (s := s) (u := w) (w := w) (z := z) (fun _ => rfl) h4
      refine ⟨_, _, y1, y2, y3, y4, fun d r0 Q => ?_⟩
      rw [h3]
      exact (x_rvS (d := d) hh hr h5 h2 hno (by omega) (Or.inr h20)).trans (by rw [if_neg hF, hFo])
    · subst h1
      obtain ⟨y1, y2, y3, y4⟩ := is_mk (q := p + 2) (p := p) hc (s := s) (u := w) (w := w) (z := z) (fun _ => rfl) h4
      refine ⟨_, _, y1, y2, y3, y4, fun d r0 Q => ?_⟩
      rw [h3]
      exact (x_rvM (d := d) hh hr h5 h2 hc.2.2.1 hno h20 hF (by omega)).trans (by rw [hFm, nl_add (by omega) (by omega)])
end
