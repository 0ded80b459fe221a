section
variable {K : Nat → pcell} {tb : Nat} {g g' g0 g1 g2 : gS} {r r' r0 v v' : rS} {x x' x0 x1 : xS} {h h' h0 h1 : pheap} {d : Nat} {Q : Option Value → pheap → Prop} {a n k m rc b L n0 p q j t c c2 c3 no A ce T Dn m0 m1 o : Nat} {F fs : Nat → Int32} {l l' : List Nat} {s z c0 s0 : Int32} {w u : Int64} {os fc : Nat → Nat} {P G : Nat → Prop}
theorem occ_t (h1 : g'.2.1 a = g.2.1 a) (h2 : (g'.1 0 4) = (g.1 0 4)) : occ g' a o ↔ occ g a o := by
  unfold occ
  rw [h1, h2]
theorem ocN_t (hw : World K tb g1 v x h1) (hm1 : m1 ≤ (g1.1 0 1)) (hf : FRv g' g1 h1.1) (hno : (g'.1 0 4) = (g1.1 0 4)) (hfc : (g'.2.2.2.2.2 8) = (g1.2.2.2.2.2 8)) (hnr : ∀ m, m0 ≤ m → m < m1 → (g'.2.2.2.2.2 11) m = (g1.2.2.2.2.2 11) m) (hfl : ∀ m k, m0 ≤ m → m < m1 → k < 6 → (g'.2.2.2.2.2 7) (6 * m + k) = (g1.2.2.2.2.2 7) (6 * m + k)) : ocN g' m0 m1 o ↔ ocN g1 m0 m1 o := by
  have key : ∀ m k, m0 ≤ m → m < m1 → k < (g1.2.2.2.2.2 8) ((g1.2.2.2.2.2 11) m) → (occ g' ((g'.2.2.2.2.2 7) (6 * m + k)) o ↔ occ g1 ((g1.2.2.2.2.2 7) (6 * m + k)) o) := fun m k e1 e2 e3 => by
    obtain ⟨k6, -⟩ := fld_le hw (show m < (g1.1 0 1) by omega) e3
    obtain ⟨p1, p2, p3, -⟩ := sim_cell hw.1 (ref_fld (x2 := x.2) (show m < (g1.1 0 1) by omega) e3)
    rw [hfl m k e1 e2 (by omega)]
    exact occ_t (hf _ p2 (by rw [p3]; exact Or.inl rfl)).2.1 hno
  constructor
  · rintro ⟨m, k, e1, e2, e3, e4⟩
    rw [hfc, hnr m e1 e2] at e3
    exact ⟨m, k, e1, e2, e3, (key m k e1 e2 e3).mp e4⟩
  · rintro ⟨m, k, e1, e2, e3, e4⟩
    exact ⟨m, k, e1, e2, by rw [hfc, hnr m e1 e2]; exact e3, (key m k e1 e2 e3).mpr e4⟩
def ITEM (K : Nat → pcell) (tb : Nat) (g0 : gS) (x0 : xS) (h0 : pheap) (b L : Nat) (F : Nat → Int32) (n0 j A Dn : Nat) (c0 s0 : Int32) (t : Nat) : Prop := ∀ g v x h s l l' p q n r T P G ce, q ≤ p + t → CB K tb g0 x0 h0 b L F n0 j g v x h → (h.2.2 b).2.2 5 = .int (nI p) → (h.2.2 b).2.2 2 = .int 0 → (g.1 0 1) = n0 + l.length → (∀ i rc, l[i]? = some rc → (g.2.2.2.2.2 11) (n0 + i) = rc) → isSrt (g.2.2.2.2.1 2) (g.2.2.2.2.1 3) s → prs ((g.2.2.2.2.2 8)) (v.2.2.1 80) ((g.2.2.2.2.2 13)) (g.1 0 4) F n [s] p l = some (q, l') → q ≤ L → l.length ≤ 12 → HR A L F n0 Dn l p s g v r T P G ce → ∃ a g' v' x' h', IC K tb g0 x0 h0 b L F n0 j A Dn c0 s0 l l' q s g v x h r T P G ce a g' v' x' h'
/-- what the fields of node m, from k on, leave -/
def GFm (g' g : gS) (m k : Nat) : Prop := (∀ k, k ≠ 1 → g'.1 0 k = g.1 0 k) ∧ (∀ a, a ≠ 0 → a ≠ 2 → g'.1 a = g.1 a) ∧ (∀ m, m < (g.1 0 1) → (g'.1 2) m = (g.1 2) m) ∧ g'.2.2.2.2.1 = g.2.2.2.2.1 ∧ (∀ a, a ≠ 11 → a ≠ 7 → g'.2.2.2.2.2 a = g.2.2.2.2.2 a) ∧ (∀ m, m < (g.1 0 1) → (g'.2.2.2.2.2 11) m = (g.2.2.2.2.2 11) m) ∧ ∀ i, i < 6 * (g.1 0 1) → (i < 6 * m + k ∨ 6 * m + 6 ≤ i) → (g'.2.2.2.2.2 7) i = (g.2.2.2.2.2 7) i
theorem gfm_s (p1 : GFm g' (gN g1 7 (6 * m + k) a) m (k + 1)) (p2 : GSm g1 g (g.1 0 1)) (hnn : (g.1 0 1) ≤ (g1.1 0 1)) (hk : k < 6) : GFm g' g m k := by
  refine ⟨fun k hk => (p1.1 k hk).trans (p2.1 k hk), fun a h1 h2 => (p1.2.1 a h1 h2).trans (p2.2.1 a h1 h2), fun m hm => (p1.2.2.1 m (show m < (g1.1 0 1) by omega)).trans (p2.2.2.1 m hm), p1.2.2.2.1.trans p2.2.2.2.1, fun a h1 h2 => (p1.2.2.2.2.1 a h1 h2).trans ((upN_n _ _ h2).trans (p2.2.2.2.2.1 a h1 h2)), fun m hm => (p1.2.2.2.2.2.1 m (show m < (g1.1 0 1) by omega)).trans (p2.2.2.2.2.2.1 m hm), fun i hi hr => ?_⟩
  refine (p1.2.2.2.2.2.2 i (show i < 6 * (g1.1 0 1) by omega) (by omega)).trans (Eq.trans ?_ (p2.2.2.2.2.2.2 i hi))
  show upN ((g1.2.2.2.2.2 7)) (6 * m + k) a i = _
  rw [upN_n _ _ (by omega)]
/-- what the reference did meanwhile -/
def RPF (A L : Nat) (F : Nat → Int32) (n0 Dn : Nat) (c0 s0 : Int32) (l' : List Nat) (q : Nat) (g : gS) (r : rS) (T : Nat) (P G : Nat → Prop) (m k : Nat) (g' : gS) (v' : rS) : Prop :=
  ∃ r' G', REL P G' Dn r' v' ∧ RSi r' A L F q n0 l' ∧ (r'.1 87) = nI T ∧ ((r'.2.2.1 118) = (r.2.2.1 118) ∧ ∀ j, j < T → (r'.2.2.1 136) j = (r.2.2.1 136) j ∧ (r'.2.2.1 137) j = (r.2.2.1 137) j) ∧ (∀ c, (c < 3 + 6 * m ∨ 363 ≤ c) → SMc r' r c) ∧ (∀ o, G' o ↔ G o ∨ (∃ k', k ≤ k' ∧ k' < (g.2.2.2.2.2 8) ((g.2.2.2.2.2 11) m) ∧ occ g' ((g'.2.2.2.2.2 7) (6 * m + k')) o) ∨ ocN g' (g.1 0 1) (g'.1 0 1) o) ∧
  ∀ d (H : pheap) Q ls, 146 ≤ H.1 → LV c0 s0 (nI Dn) ls → ∃ ls', LV c0 s0 (nI Dn) ls' ∧ Go (d + 4) 273 11 ls [] (putR r H) Q = Go (d + 4) 273 11 ls' [] (putR r' H) Q
def FC (K : Nat → pcell) (tb : Nat) (g0 : gS) (x0 : xS) (h0 : pheap) (b L : Nat) (F : Nat → Int32) (n0 j A Dn : Nat) (c0 s0 : Int32) (ll : Nat) (l' : List Nat) (q rc m k jj : Nat) (g : gS) (v : rS) (x : xS) (h : pheap) (r : rS) (T : Nat) (P G : Nat → Prop) (g' : gS) (v' : rS) (x' : xS) (h' : pheap) : Prop :=
  CB K tb g0 x0 h0 b L F n0 j g' v' x' h' ∧ GFm g' g m k ∧ FRv g' g h.1 ∧ h.1 ≤ h'.1 ∧ ((g.1 0 1) ≤ (g'.1 0 1) ∧ (g'.1 0 1) ≤ n0 + l'.length) ∧ (h'.1 + 21 * (g.1 0 1) ≤ h.1 + 2 * jj + 21 * (g'.1 0 1) ∧ h'.2.1 + 240 * (g.1 0 1) ≤ h.2.1 + 19 * jj + 240 * (g'.1 0 1)) ∧ (x'.2 0 = x.2 0 ∧ VW v' v) ∧
  (∀ d r0 Q, 9 + 2 * (12 - ll) ≤ d → Go d 146 55 [.ref b, .int (nI rc), .ref (x.2 0), .ref 20, .int (nI m), .ref ((g.1 2) m), .int (nI k)] [] (putR r0 (putX x h)) Q = Q (some (.int (nI m))) (putR r0 (putX x' h'))) ∧
  (((h'.2.2 b).2.2 2 = .int 1 ∧ 60 < n0 + l'.length) ∨ ((h'.2.2 b).2.2 2 = .int 0 ∧ (h'.2.2 b).2.2 5 = .int (nI q) ∧ (g'.1 0 1) = n0 + l'.length ∧ (∀ i rc, l'[i]? = some rc → (g'.2.2.2.2.2 11) (n0 + i) = rc) ∧ RPF A L F n0 Dn c0 s0 l' q g r T P G m k g' v'))
/-- the fields of a node that lacks room: zeros -/
theorem fld_z (h60 : 60 < n0 + l'.length) (hm0 : n0 ≤ m) {ll : Nat} {q : Nat} : ∀ jj k (g : gS) v h, CB K tb g0 x0 h0 b L F n0 j g v x h → (h.2.2 b).2.2 2 = .int 1 → m < (g.1 0 1) → (g.1 0 1) ≤ n0 + l'.length → (g.2.2.2.2.2 8) ((g.2.2.2.2.2 11) m) = k + jj → ∃ g' v' x' h', FC K tb g0 x0 h0 b L F n0 j A Dn c0 s0 ll l' q rc m k jj g v x h r T P G g' v' x' h' ∧ (h'.2.2 b).2.2 2 = .int 1
  | 0, k, g, v, h, hc, h2, hm, hl, hk => ⟨g, v, x, h, ⟨hc, ⟨fun _ _ => rfl, fun _ _ _ => rfl, fun _ _ => rfl, rfl, fun _ _ _ => rfl, fun _ _ => rfl, fun _ _ _ => rfl⟩, frv_r, Nat.le_refl _, ⟨Nat.le_refl _, hl⟩, ⟨by omega, by omega⟩, ⟨rfl, vw_r⟩, fun d r0 Q hd => by
      obtain ⟨d', rfl⟩ : ∃ d', d = d' + 1 := ⟨d - 1, by omega⟩
      exact x_rnE hc.1 hm (by omega), Or.inl ⟨h2, h60⟩⟩, h2⟩
  | jj + 1, k, g, v, h, hc, h2, hm, hl, hk => by
    have hw := hc.1
    have hh := sim_146 hw.1
    obtain ⟨h01, hb0, hb1⟩ := cb_lo hc
    have t6 := hc.2.1.2.2.1
    have hbn := hc.2.1.2.1
    have hnd := hc.2.2.2.1.2 m hm0 hm
    obtain ⟨s, hs⟩ : ∃ s, s = v.2.2.1 80 (6 * (g.2.2.2.2.2 11) m + k) := ⟨_, rfl⟩
    have hc1 := cb_val (s := s) (v := zv s) (t := 0) hc (fun y => absurd rfl y)
    have hm1 : m < (gW g h.1 s (zv s) 0).1 0 1 := hm
    have hw1 := hc1.1
    have hva : (gW g h.1 s (zv s) 0).2.1 h.1 = (s, zv s, 0) := by
      unfold gW
      exact gP_va
    obtain ⟨v2, hc2, hv2⟩ := cb_zst (a := h.1) (s := s) (k := k) hc1 hm0 hm1 (by show k < (g.2.2.2.2.2 8) ((g.2.2.2.2.2 11) m); omega) ⟨hh, by rw [mkV_1]; omega, gP_ro⟩ hva VV_z hs
    have h2' : ((hset (mkV h s (zv s) 0) ((g.1 2) m + 1) k (.ref h.1)).2.2 b).2.2 2 = .int 1 := by
      rw [hs_o _ _ (by omega), mkV_o (by omega)]
      exact h2
    obtain ⟨g', v', x', h', ⟨y1, y2, y3, y4, y5, y6, y7, y8, -⟩, y9⟩ := fld_z h60 hm0 (ll := ll) (q := q) jj (k + 1) _ v2 _ hc2 h2' hm hl (by show (g.2.2.2.2.2 8) ((g.2.2.2.2.2 11) m) = _; omega)
    obtain ⟨k6, m60⟩ := fld_le hw hm (show k < (g.2.2.2.2.2 8) ((g.2.2.2.2.2 11) m) by omega)
    obtain ⟨a1, a2, a3, a4, a5⟩ := s_nfl hw.1 hm
    have hfr : FRv (gW g h.1 s (zv s) 0) g h.1 := fun a ha _ => ⟨gP_rn (by omega), gP_vn (by omega), gP_an (by omega)⟩
    have hfr' : FRv (gN (gW g h.1 s (zv s) 0) 7 (6 * m + k) h.1) g h.1 := hfr
    refine ⟨g', v', x', h', ⟨y1, gfm_s (g1 := gW g h.1 s (zv s) 0) y2 gsm_r (Nat.le_refl _) (by omega), frv_t y3 hfr' (by rw [hs_1, mkV_1]; omega), ?_, y5, ⟨?_, ?_⟩, ⟨y7.1, vw_t y7.2 hv2⟩, fun d r0 Q hd => ?_, Or.inl ⟨y9, h60⟩⟩, y9⟩
    · rw [hs_1, mkV_1] at y4
      omega
    · have := y6.1
      rw [hs_1, mkV_1] at this
      have e : (gN (gW g h.1 s (zv s) 0) 7 (6 * m + k) h.1).1 0 1 = (g.1 0 1) := rfl
      rw [e] at this
      omega
    · have := y6.2
      rw [hs_u, mkV_u] at this
      have e : (gN (gW g h.1 s (zv s) 0) 7 (6 * m + k) h.1).1 0 1 = (g.1 0 1) := rfl
      rw [e] at this
      omega
    · obtain ⟨d', rfl⟩ : ∃ d', d = d' + 4 + 1 := ⟨d - 5, by omega⟩
      have hmk := (mkV_s (h := h) (s := s) (v := zv s) (t := 0)).1
      exact (x_rnF hw hm (by omega) hs t6 ⟨hb1, by omega⟩ (by rw [mkV_1]; omega) (by rw [mkV_o (by omega)]; exact ⟨a3, a4⟩) (by rw [mkV_1]; omega) ⟨hh, by rw [mkV_1]; omega⟩ hmk (fun Q => x_rvZ hh t6 hb1 (by omega) h2)).trans (y8 (d' + 4 + 1) r0 Q hd)
end
