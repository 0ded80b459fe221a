section
variable {K : Nat → pcell} {tb : Nat} {g g' g0 g1 g2 : gS} {r r' r0 v v' : rS} {x x' x0 x1 : xS} {h h' h0 h1 : pheap} {d : Nat} {Q : Option Value → pheap → Prop} {a n k m rc b L n0 p q j t c c2 c3 no A ce ce0 T Dn N i ar sa D : Nat} {F fs sr : Nat → Int32} {l l' : List Nat} {s z : Int32} {w u : Int64} {os fc as : Nat → Nat} {P G : Nat → Prop}
/-- but for one cell, that is nothing's -/
def BA (K : Nat → pcell) (tb : Nat) (g0 : gS) (x0 : xS) (ar : Nat) (h' h : pheap) : Prop := h'.1 = h.1 ∧ h'.2.1 = h.2.1 ∧ (∀ a, a ≠ ar → h'.2.2 a = h.2.2 a) ∧ ∀ R, World K tb g0 R x0 h → World K tb g0 R x0 h'
theorem ba_r : BA K tb g0 x0 ar h h := ⟨rfl, rfl, fun _ _ => rfl, fun _ y => y⟩
theorem ba_s (hb : BA K tb g0 x0 ar h' (hset h ar k (.ref a))) (h1 : 146 ≤ ar) (hr : g0.2.2.2.1 ar = (0, 0)) : BA K tb g0 x0 ar h' h := ⟨hb.1, hb.2.1, fun a ha => (hb.2.2.1 a ha).trans (hs_o _ _ ha), fun R hw => hb.2.2.2 R ⟨sim_junk hw.1 hr h1 _ _, hw.2⟩⟩
/-- come, once NODES lack -/
theorem cm_z : ∀ jj i as (g : gS) h h0, i + jj = N → CM g0 h0 ar sa N sr → CB K tb g0 x0 h0 b L F n0 j g v x h → (h.2.2 b).2.2 2 = .int 1 → AVl g h ar N i as sr → ∃ g' h' h0', CB K tb g0 x0 h0' b L F n0 j g' v x h' ∧ (h'.2.2 b).2.2 2 = .int 1 ∧ BA K tb g0 x0 ar h0' h0 ∧ (g'.1 0 1) = (g.1 0 1) ∧ (h.1 ≤ h'.1 ∧ h'.1 ≤ h.1 + jj ∧ h'.2.1 ≤ h.2.1 + 3 * jj) ∧ ∀ d r0 Q, Go (d + 5) 143 25 [.ref 5, .ref D, .ref b, .ref sa, .int (nI n0), .ref ar, .int (nI i)] [] (putR r0 (putX x h)) Q = Go (d + 5) 143 59 [.ref 5, .ref D, .ref b, .ref sa, .int (nI n0), .ref ar, .int (nI N)] [] (putR r0 (putX x h')) Q
  | 0, i, as, g, h, h0, hi, hm, hc, h2, ha => by
    obtain rfl : i = N := by omega
    obtain ⟨⟨a1, a2, a3⟩, ⟨b1, b2, b3⟩, ⟨c1, c2, c3⟩, d1, d2⟩ := hm
    obtain ⟨e1, e2⟩ := cb_o hc b2 b3
    obtain ⟨h01, -, -⟩ := cb_lo hc
    exact ⟨g, h, h0, hc, h2, ba_r, rfl, ⟨by omega, by omega, by omega⟩, fun d r0 Q => x_cmE (sim_146 hc.1.1) d1 ⟨b1, by omega, by rw [e1]; exact c1, by rw [e1]; exact c2⟩⟩
  | jj + 1, i, as, g, h, h0, hi, hm, hc, h2, ha => by
    have hm' := hm
    obtain ⟨⟨a1, a2, a3⟩, ⟨b1, b2, b3⟩, ⟨c1, c2, c3⟩, d1, d2⟩ := hm
    obtain ⟨e1, e2⟩ := cb_o hc b2 b3
    obtain ⟨h01, hb0, hb1⟩ := cb_lo hc
    have hh := sim_146 hc.1.1
    have t6 := hc.2.1.2.2.1
    have hbn := hc.2.1.2.1
    have hc1 := cb_val (s := sr i) (v := zv (sr i)) (t := 0) hc (fun y => absurd rfl y)
    have hc2 := cb_base hc1 a1 a2 a3 i (.ref h.1)
    have hfr : FRv (gW g h.1 (sr i) (zv (sr i)) 0) g h.1 := fun a ha _ => ⟨gP_rn (by omega), gP_vn (by omega), gP_an (by omega)⟩
    have hva : (gW g h.1 (sr i) (zv (sr i)) 0).2.1 h.1 = (sr i, zv (sr i), 0) := gP_va
    have hok : okP (gW g h.1 (sr i) (zv (sr i)) 0).2.2.2.1 (mkV h (sr i) (zv (sr i)) 0).1 h.1 (1, 0) := ⟨hh, by rw [mkV_1]; omega, gP_ro⟩
    have hmo : (mkV h (sr i) (zv (sr i)) 0).2.2 ar = h.2.2 ar := mkV_o (by omega)
    have hmb : (mkV h (sr i) (zv (sr i)) 0).2.2 b = h.2.2 b := mkV_o (by omega)
    have hav := avl_s (i := i) ha hmo (by rw [mkV_1]; omega) hfr hok (by rw [hva])
    have nb : b ≠ ar := fun y => by
      have := hc.2.2.2.2.2.2.2.2.2.2.2.2.2.1
      rw [y, a3] at this
      cases this
    obtain ⟨g', h', h0', y1, y2, y3, y4, ⟨y5, y6, y7⟩, y8⟩ := cm_z jj (i + 1) _ _ _ _ (by omega) (cm_b hm' i (.ref h.1)) hc2 (by rw [hs_o _ _ nb, hmb]; exact h2) hav
    rw [hs_1, mkV_1] at y5 y6
    rw [hs_u, mkV_u] at y7
    refine ⟨g', h', h0', y1, y2, ba_s y3 a1 a3, y4, ⟨by omega, by omega, by omega⟩, fun d r0 Q => ?_⟩
    rw [← y8 d r0 Q]
    exact x_cmF (d := d + 4) (sr := sr) hh ⟨b1, by omega, by rw [e1]; exact c1, by rw [e1]; exact c2, by rw [e1]; exact c3 i (by omega)⟩ (by omega) d1 t6 ⟨hb1, by omega⟩ (by rw [mkV_1]; omega) ⟨a1, by rw [mkV_1]; omega, by rw [hmo]; exact ha.1.1, by rw [hmo]; exact ha.1.2⟩ ⟨hh, by rw [mkV_1]; omega⟩ mkV_s.1 (fun Q => x_rvZ hh t6 hb1 (by omega) h2)
/-- the reference takes one value after the other -/
def TKS (Dn ce0 : Nat) (sr : Nat → Int32) : Nat → Nat → rS → rS → Prop
  | 0, _, r, r' => r = r'
  | jj + 1, i, r, r' => ∃ r1, ((r1.2.2.1 85) = (r.2.2.1 85) ∧ (r1.2.2.1 86) = (r.2.2.1 86)) ∧ (∀ d (H : pheap) Q, 146 ≤ H.1 → Go (d + 4) 273 0 [.ref 73, .int (nI (ce0 + i)), .int (sr i), .int (nI Dn), .int 0, mk0, mk0, mk0, mk0, mk0, mk0, mk0, mk0] [] (putR r H) Q = Q none (putR r1 H)) ∧ TKS Dn ce0 sr jj (i + 1) r1 r'
def svL (sr : Nat → Int32) : Nat → Nat → List Int32
  | 0, _ => []
  | jj + 1, i => sr i :: svL sr jj (i + 1)
theorem sv_map : ∀ jj i, (List.range' i jj).map sr = svL sr jj i
  | 0, _ => rfl
  | jj + 1, i => by rw [List.range'_succ, List.map_cons, sv_map jj (i + 1)]; rfl
theorem sv_range : (List.range n).map sr = svL sr n 0 := by rw [List.range_eq_range', sv_map]
theorem vr_fr (hw : World K tb g v x h) (hv : VR g ((r.2.2.2 87)) ((r.2.2.1 88)) ((r.2.2.1 89)) a s c) (ha : okP g.2.2.2.1 h.1 a (1, 0)) (hf : FRv g' g h.1) (hr : SMc r' r c) : VR g' ((r'.2.2.2 87)) ((r'.2.2.1 88)) ((r'.2.2.1 89)) a s c := by
  obtain ⟨s1, s2, s3⟩ := hr
  obtain ⟨v1, v2, v3⟩ := hv
  obtain ⟨f1, f2, f3⟩ := hf a ha.2.1 (by rw [ha.2.2]; exact Or.inl rfl)
  refine ⟨by rw [f2]; exact v1, fun y => by rw [f2, s1]; exact v2 y, fun y => ?_⟩
  rw [f2, s2]
  rcases v3 y with y | ⟨y1, y2, y3, y4⟩
  · exact Or.inl y
  · obtain ⟨p1, p2, p3⟩ := hw.1.2.1.2.1 a (by rw [ha.2.2]) y1
    have e := (hf _ p2 (by rw [p3]; exact Or.inr rfl)).2.2
    refine Or.inr ⟨y1, by rw [e]; exact y2, by rw [e]; exact y3, fun k hk => ?_⟩
    rw [e] at hk ⊢
    rw [s3 k (by omega)]
    exact y4 k hk
end
