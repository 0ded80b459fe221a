section
variable {K : Nat → pcell} {tb : Nat} {g g' g0 g1 g2 : gS} {r r' r0 v v' : rS} {x x' x0 x1 : xS} {h h' h0 h1 : pheap} {d : Nat} {Q : Option Value → pheap → Prop} {a n k m rc b L n0 p q j t c c2 c3 no A ce T Dn m0 m1 o ll : Nat} {F fs : Nat → Int32} {l l' : List Nat} {s z c0 s0 : Int32} {w u : Int64} {os fc : Nat → Nat} {P G : Nat → Prop}
theorem flds (hI : ITEM K tb g0 x0 h0 b L F n0 j A Dn c0 s0 t) (hm0 : n0 ≤ m) (hP : ∀ c, P c → c < 3 + 6 * m ∨ 363 ≤ c) : ∀ jj k (g : gS) v x h l p n r G, CB K tb g0 x0 h0 b L F n0 j g v x h → (h.2.2 b).2.2 5 = .int (nI p) → (h.2.2 b).2.2 2 = .int 0 → m < (g.1 0 1) → (g.1 0 1) = n0 + l.length → (∀ i rc, l[i]? = some rc → (g.2.2.2.2.2 11) (n0 + i) = rc) → (g.2.2.2.2.2 8) ((g.2.2.2.2.2 11) m) = k + jj → prs ((g.2.2.2.2.2 8)) (v.2.2.1 80) ((g.2.2.2.2.2 13)) (g.1 0 4) F n (flT (v.2.2.1 80) ((g.2.2.2.2.2 11) m) k jj) p l = some (q, l') → q ≤ p + t → q ≤ L → l.length ≤ 12 → ll ≤ l.length → REL P G Dn r v → RSi r A L F p n0 l → (r.1 87) = nI (T + jj) → (∀ i, i < jj → (r.2.2.1 137) (T + (jj - 1 - i)) = v.2.2.1 80 (6 * (g.2.2.2.2.2 11) m + (k + i)) ∧ (r.2.2.1 136) (T + (jj - 1 - i)) = nI (3 + (6 * m + (k + i)))) → T + jj + 6 * (12 - l.length) ≤ 100 → ∃ g' v' x' h', FC K tb g0 x0 h0 b L F n0 j A Dn c0 s0 ll l' q rc m k jj g v x h r T P G g' v' x' h'
  | 0, k, g, v, x, h, l, p, n, r, G, hc, h5, h2, hm, hn, hl, hk, hp, hpt, hqL, hl12, hll, hr, hrs, htd, hst, hT => by
    obtain ⟨rfl, rfl⟩ : p = q ∧ l = l' := by
      cases n with
      | zero => unfold prs at hp; cases hp
      | succ n =>
        unfold flT prs at hp
        cases hp
        exact ⟨rfl, rfl⟩
    refine ⟨g, v, x, h, hc, ⟨fun _ _ => rfl, fun _ _ _ => rfl, fun _ _ => rfl, rfl, fun _ _ _ => rfl, fun _ _ => rfl, fun _ _ _ => rfl⟩, frv_r, Nat.le_refl _, ⟨Nat.le_refl _, by omega⟩, ⟨by omega, by omega⟩, ⟨rfl, vw_r⟩, fun d r0 Q hd => ?_, Or.inr ⟨h2, h5, hn, hl, r, G, hr, hrs, htd, ⟨rfl, fun _ _ => ⟨rfl, rfl⟩⟩, fun _ _ => ⟨rfl, rfl, fun _ _ => rfl⟩, fun o => ⟨fun y => Or.inl y, ?_⟩, fun d H Q ls _ hls => ⟨ls, hls, rfl⟩⟩⟩
    · obtain ⟨d', rfl⟩ : ∃ d', d = d' + 1 := ⟨d - 1, by omega⟩
      exact x_rnE hc.1 hm (by omega)
    · rintro (y | ⟨k', y1, y2, -⟩ | ⟨m', k', y1, y2, -⟩)
      · exact y
      · omega
      · omega
  | jj + 1, k, g, v, x, h, l, p, n, r, G, hc, h5, h2, hm, hn, hl, hk, hp, hpt, hqL, hl12, hll, hr, hrs, htd, hst, hT => by
    have hw := hc.1
    have hh := sim_146 hw.1
    obtain ⟨h01, hb0, hb1⟩ := cb_lo hc
    have t6 := hc.2.1.2.2.1
    have hbn := hc.2.1.2.1
    have hnd := hc.2.2.2.1.2 m hm0 hm
    have hkf : k < (g.2.2.2.2.2 8) ((g.2.2.2.2.2 11) m) := by omega
    obtain ⟨k6, m60⟩ := fld_le hw hm hkf
    obtain ⟨n1, p1, l1, n2, e1, -, -, e2⟩ := prs_split n [v.2.2.1 80 (6 * (g.2.2.2.2.2 11) m + k)] (flT (v.2.2.1 80) ((g.2.2.2.2.2 11) m) (k + 1) jj) p l (q, l') hp
    have pp1 := prs_le _ _ _ _ _ _ e1
    have pp2 := prs_le _ _ _ _ _ _ e2
    have ll1 := prs_len _ _ _ _ _ _ e1
    have ll2 := prs_len _ _ _ _ _ _ e2
    have l12 := prs_12 _ _ _ _ _ _ e1 hl12
    obtain ⟨hs0, hs1⟩ := hst 0 (by omega)
    rw [Nat.add_zero, show T + (jj + 1 - 1 - 0) = T + jj by omega] at hs0 hs1
    obtain ⟨a, g1, v1, x1, h1, i1, i2, i3, i4, i5, ⟨i6, i6'⟩, ⟨i7, i7'⟩, ⟨i8, i8'⟩, ⟨i9, i9'⟩, i10, i11⟩ := hI g v x h (v.2.2.1 80 (6 * (g.2.2.2.2.2 11) m + k)) l l1 p p1 n1 r (T + jj) P G (3 + (6 * m + k)) (by omega) hc h5 h2 hn hl (fld_srt hw hm hkf) e1 (by omega) hl12 ⟨hr, hrs, htd, hs1, hs0, by omega, by omega, fun c hc => by have := hP c hc; omega, by omega⟩
    have hm1 : m < (g1.1 0 1) := by omega
    have f1 : (g1.1 2) m = (g.1 2) m := i4.2.2.1 m hm
    have f2 : (g1.2.2.2.2.2 11) m = (g.2.2.2.2.2 11) m := i4.2.2.2.2.2.1 m hm
    have f3 : (g1.2.2.2.2.2 8) = (g.2.2.2.2.2 8) := i4.2.2.2.2.1 _ (by decide) (by decide)
    have f4 : (g1.2.2.2.2.2 13) = (g.2.2.2.2.2 13) := i4.2.2.2.2.1 _ (by decide) (by decide)
    have f5 : (g1.1 0 4) = (g.1 0 4) := i4.1 _ (by decide)
    have hk1 : k < (g1.2.2.2.2.2 8) ((g1.2.2.2.2.2 11) m) := by rw [f2, f3]; exact hkf
    have hsv : v.2.2.1 80 (6 * (g.2.2.2.2.2 11) m + k) = v1.2.2.1 80 (6 * (g1.2.2.2.2.2 11) m + k) := by rw [vw_f i9', f2]
    have hnd1 : h0.1 ≤ (g1.1 2) m := by rw [f1]; exact hnd
    have hbh : ∀ k', ((hset h1 ((g1.1 2) m + 1) k (.ref a)).2.2 b).2.2 k' = (h1.2.2 b).2.2 k' := fun k' => by rw [hs_o _ _ (by omega)]
    obtain ⟨a1, a2, a3, a4, a5⟩ := s_nfl i1.1.1 hm1
    obtain ⟨v9, -⟩ := s_val i1.1.1 i2.2.2 i2.1 i2.2.1
    have comp : ∀ v2 : rS, VW v2 v1 → ∀ g' v' x' h' ry Gy, FC K tb g0 x0 h0 b L F n0 j A Dn c0 s0 ll l' q rc m (k + 1) jj (gN g1 7 (6 * m + k) a) v2 x1 (hset h1 ((g1.1 2) m + 1) k (.ref a)) ry T P Gy g' v' x' h' → (((h'.2.2 b).2.2 2 = .int 1 ∧ 60 < n0 + l'.length) ∨ ((h'.2.2 b).2.2 2 = .int 0 ∧ (h'.2.2 b).2.2 5 = .int (nI q) ∧ (g'.1 0 1) = n0 + l'.length ∧ (∀ i rc, l'[i]? = some rc → (g'.2.2.2.2.2 11) (n0 + i) = rc) ∧ RPF A L F n0 Dn c0 s0 l' q g r T P G m k g' v')) → FC K tb g0 x0 h0 b L F n0 j A Dn c0 s0 ll l' q rc m k (jj + 1) g v x h r T P G g' v' x' h' := fun v2 hv2 g' v' x' h' ry Gy hF hlast => by
      obtain ⟨y1, y2, y3, y4, ⟨y5, y5'⟩, ⟨y6, y6'⟩, ⟨y7, y7'⟩, y8, -⟩ := hF
      have en : (gN g1 7 (6 * m + k) a).1 0 1 = (g1.1 0 1) := rfl
      rw [en] at y5 y6 y6'
      rw [hs_1] at y4 y6
      rw [hs_u] at y6'
      have hfr' : FRv (gN g1 7 (6 * m + k) a) g h.1 := i5
      refine ⟨y1, gfm_s y2 i4 i7 (by omega), frv_t y3 hfr' (by rw [hs_1]; omega), by omega, ⟨by omega, y5'⟩, ⟨by omega, by omega⟩, ⟨y7.trans i9, vw_t y7' (vw_t hv2 i9')⟩, fun d r0 Q hd => ?_, hlast⟩
      obtain ⟨d', rfl⟩ : ∃ d', d = d' + 1 := ⟨d - 1, by omega⟩
      have yy := y8 (d' + 1) r0 Q hd
      have en2 : (gN g1 7 (6 * m + k) a).1 2 m = (g.1 2) m := f1
      rw [en2, i9] at yy
      rw [f1] at yy a3 a4
      rw [← yy]
      exact x_rnF hw hm hkf rfl t6 ⟨hb1, by omega⟩ (sim_146 i1.1.1) ⟨a3, by rw [a4, f2, f3]⟩ i6 ⟨i2.1, i2.2.1⟩ v9 (fun Q => i10 d' r0 Q (by omega))
    rcases i11 with ⟨j1, j60, jw, j2, j2'⟩ | ⟨j1, j2, j3, j4, r1, G1, k1, k2, k3, k4, k5, k6', k7, k8, k9⟩
    · obtain ⟨v2, hc2, hv2⟩ := cb_zst i1 hm0 hm1 hk1 i2 j2 j2' hsv
      obtain ⟨g', v', x', h', hF, hz⟩ := fld_z (A := A) (Dn := Dn) (c0 := c0) (s0 := s0) (rc := rc) (r := r) (T := T) (P := P) (G := G) (l' := l') (by omega) hm0 (ll := ll) (q := q) jj (k + 1) _ v2 _ hc2 (by rw [hbh]; exact j1) hm1 (show (g1.1 0 1) ≤ n0 + l'.length by omega) (by show (g1.2.2.2.2.2 8) ((g1.2.2.2.2.2 11) m) = _; rw [f2, f3]; omega)
      exact ⟨g', v', x', h', comp v2 hv2 _ _ _ _ _ _ hF (Or.inl ⟨hz, by omega⟩)⟩
    · have hst2 := w_str (r := r1) i1.1 hm1 hk1 i2 hsv k6' k5
      have hc2 := cb_set i1 hm0 hm1 hst2
      have e2' : prs ((gN g1 7 (6 * m + k) a).2.2.2.2.2 8) ((stR v1 r1 (3 + (6 * m + k))).2.2.1 80) ((gN g1 7 (6 * m + k) a).2.2.2.2.2 13) ((gN g1 7 (6 * m + k) a).1 0 4) F n2 (flT ((stR v1 r1 (3 + (6 * m + k))).2.2.1 80) ((gN g1 7 (6 * m + k) a).2.2.2.2.2 11 m) (k + 1) jj) p1 l1 = some (q, l') := by
        show prs ((g1.2.2.2.2.2 8)) (v1.2.2.1 80) ((g1.2.2.2.2.2 13)) (g1.1 0 4) F n2 (flT (v1.2.2.1 80) ((g1.2.2.2.2.2 11) m) (k + 1) jj) p1 l1 = some (q, l')
        rw [f2, f3, f4, f5, vw_f i9']
        exact e2
      obtain ⟨g', v', x', h', hF⟩ := flds hI hm0 hP jj (k + 1) _ (stR v1 r1 (3 + (6 * m + k))) x1 _ l1 p1 n2 r1 G1 hc2 (by rw [hbh]; exact j2) (by rw [hbh]; exact j1) hm1 j3 j4 (by show (g1.2.2.2.2.2 8) ((g1.2.2.2.2.2 11) m) = _; rw [f2, f3]; omega) e2' (by omega) hqL l12 (by omega) (rel_set k1) k2 k3 (fun i hi => by
        obtain ⟨z1, z2⟩ := hst (i + 1) (by omega)
        rw [show T + (jj + 1 - 1 - (i + 1)) = T + (jj - 1 - i) by omega, show k + (i + 1) = k + 1 + i by omega] at z1 z2
        obtain ⟨u1, u2⟩ := k4.2 (T + (jj - 1 - i)) (by omega)
        refine ⟨?_, u1.trans z2⟩
        show _ = v1.2.2.1 80 (6 * (g1.2.2.2.2.2 11) m + (k + 1 + i))
        rw [vw_f i9', f2]
        exact u2.trans z1) (by omega)
      refine ⟨g', v', x', h', comp (stR v1 r1 (3 + (6 * m + k))) vw_w _ _ _ _ _ _ hF ?_⟩
      obtain ⟨y1, y2, y3, y4, ⟨y5, y5'⟩, y6, y7, y8, y9⟩ := hF
      rcases y9 with y | ⟨u1, u2, u3, u4, r', G', w1, w2, w3, w4, w5, w6, w7⟩
      · exact Or.inl y
      · refine Or.inr ⟨u1, u2, u3, u4, r', G', w1, w2, w3, ⟨w4.1.trans k4.1, fun i hi => ?_⟩, fun c hc => ?_, fun o => ?_, fun d H Q ls hh hls => ?_⟩
        · obtain ⟨z1, z2⟩ := w4.2 i hi
          obtain ⟨z3, z4⟩ := k4.2 i (by omega)
          exact ⟨z1.trans z3, z2.trans z4⟩
        · obtain ⟨z1, z2, z3⟩ := w5 c hc
          obtain ⟨z4, z5, z6⟩ := k7 c (by omega) (by omega)
          exact ⟨z1.trans z4, z2.trans z5, fun i hi => (z3 i hi).trans (z6 i hi)⟩
        · have en1 : (g'.1 0 4) = (g1.1 0 4) := y2.1 _ (by decide)
          have en2 : (g'.2.2.2.2.2 8) = (g1.2.2.2.2.2 8) := y2.2.2.2.2.1 _ (by decide) (by decide)
          have hfr : FRv g' g1 h1.1 := y3
          have ea : (g'.2.2.2.2.2 7) (6 * m + k) = a := (y2.2.2.2.2.2.2 (6 * m + k) (show 6 * m + k < 6 * (g1.1 0 1) by omega) (Or.inl (by omega))).trans (upN_s ((g1.2.2.2.2.2 7)) (6 * m + k) a)
          have A1 : occ g' ((g'.2.2.2.2.2 7) (6 * m + k)) o ↔ occ g1 a o := by
            rw [ea]
            exact occ_t (hfr a i2.2.1 (by rw [i2.2.2]; exact Or.inl rfl)).2.1 en1
          have A2 : ocN g' (g.1 0 1) (g1.1 0 1) o ↔ ocN g1 (g.1 0 1) (g1.1 0 1) o := ocN_t i1.1 (Nat.le_refl _) hfr en1 en2 (fun m' q1 q2 => y2.2.2.2.2.2.1 m' q2) (fun m' k' q1 q2 q3 => (y2.2.2.2.2.2.2 (6 * m' + k') (show 6 * m' + k' < 6 * (g1.1 0 1) by omega) (Or.inr (by omega))).trans (upN_n ((g1.2.2.2.2.2 7)) a (show 6 * m' + k' ≠ 6 * m + k by omega)))
          have w6' : G' o ↔ G1 o ∨ (∃ k', k + 1 ≤ k' ∧ k' < (g1.2.2.2.2.2 8) ((g1.2.2.2.2.2 11) m) ∧ occ g' ((g'.2.2.2.2.2 7) (6 * m + k')) o) ∨ ocN g' (g1.1 0 1) (g'.1 0 1) o := w6 o
          have y5'' : (g1.1 0 1) ≤ (g'.1 0 1) := y5
          rw [f2, f3] at w6'
          rw [w6', k8 o, ← A1, ← A2]
          constructor
          · rintro ((e | e | ⟨m', k', e1, e2, e3⟩) | ⟨k', e1, e2, e3⟩ | ⟨m', k', e1, e2, e3⟩)
            · exact Or.inl e
            · exact Or.inr (Or.inl ⟨k, Nat.le_refl _, hkf, e⟩)
            · exact Or.inr (Or.inr ⟨m', k', e1, by omega, e3⟩)
            · exact Or.inr (Or.inl ⟨k', by omega, e2, e3⟩)
            · exact Or.inr (Or.inr ⟨m', k', by omega, e2, e3⟩)
          · rintro (e | ⟨k', e1, e2, e3⟩ | ⟨m', k', e1, e2, e3⟩)
            · exact Or.inl (Or.inl e)
            · by_cases y : k' = k
              · subst y
                exact Or.inl (Or.inr (Or.inl e3))
              · exact Or.inr (Or.inl ⟨k', by omega, e2, e3⟩)
            · by_cases y : m' < (g1.1 0 1)
              · exact Or.inl (Or.inr (Or.inr ⟨m', k', e1, y, e3⟩))
              · exact Or.inr (Or.inr ⟨m', k', by omega, e2, e3⟩)
        · obtain ⟨ls1, q1, q2⟩ := k9 d H Q ls hh hls
          obtain ⟨ls2, q3, q4⟩ := w7 d H Q ls1 hh q1
          exact ⟨ls2, q3, q2.trans q4⟩
end
