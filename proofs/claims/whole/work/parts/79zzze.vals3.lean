section
variable {K : Nat → pcell} {tb : Nat} {g g' g0 g1 g2 : gS} {r r' r0 v v' : rS} {x x' x0 x1 : xS} {h h' h0 h1 : pheap} {d : Nat} {Q : Option Value → pheap → Prop} {a n k m rc b L n0 p q j t c c2 c3 no A ce ce0 T Dn N i ar sa D : Nat} {F fs sr : Nat → Int32} {l l' : List Nat} {s z : Int32} {w u : Int64} {os fc as : Nat → Nat} {P G : Nat → Prop}
/-- what the values so far are, for the reference -/
def VQ (g : gS) (r : rS) (n0 ce0 i : Nat) (as : Nat → Nat) (sr : Nat → Int32) (G : Nat → Prop) : Prop := (∀ k, k < i → VR g ((r.2.2.2 87)) ((r.2.2.1 88)) ((r.2.2.1 89)) (as k) (sr k) (ce0 + k) ∧ VV (g.1 0 1) (g.1 0 4) ((g.2.2.2.2.2 11)) ((g.2.2.2.2.2 13)) ((r.2.2.2 87) (ce0 + k)) (sr k)) ∧ ∀ o, G o ↔ (∃ k, k < i ∧ occ g (as k) o) ∨ ocN g n0 (g.1 0 1) o
/-- what comes of reading the values -/
def VF (K : Nat → pcell) (tb : Nat) (g0 : gS) (x0 : xS) (h0 : pheap) (b L : Nat) (F : Nat → Int32) (n0 j A Dn ce0 : Nat) (sr : Nat → Int32) (ar sa N D : Nat) (l' : List Nat) (q jj i : Nat) (g : gS) (v : rS) (x : xS) (h : pheap) (r : rS) (g' : gS) (v' : rS) (x' : xS) (h' h0' : pheap) : Prop :=
  CB K tb g0 x0 h0' b L F n0 j g' v' x' h' ∧ BA K tb g0 x0 ar h0' h0 ∧ h.1 ≤ h'.1 ∧ ((g.1 0 1) ≤ (g'.1 0 1) ∧ (g'.1 0 1) ≤ n0 + l'.length) ∧ (h'.1 + 21 * (g.1 0 1) ≤ h.1 + 2 * jj + 21 * (g'.1 0 1) ∧ h'.2.1 + 240 * (g.1 0 1) ≤ h.2.1 + 19 * jj + 240 * (g'.1 0 1)) ∧ VW v' v ∧
  (∀ d r0 Q, Go (d + 34) 143 25 [.ref 5, .ref D, .ref b, .ref sa, .int (nI n0), .ref ar, .int (nI i)] [] (putR r0 (putX x h)) Q = Go (d + 34) 143 59 [.ref 5, .ref D, .ref b, .ref sa, .int (nI n0), .ref ar, .int (nI N)] [] (putR r0 (putX x' h')) Q) ∧
  (((h'.2.2 b).2.2 2 = .int 1 ∧ 60 < n0 + l'.length) ∨ ((h'.2.2 b).2.2 2 = .int 0 ∧ (g'.1 0 1) = n0 + l'.length ∧ ∃ r' G' as', REL (fun c => ∃ k, k < N ∧ c = ce0 + k) G' Dn r' v' ∧ RSi r' A L F q n0 l' ∧ AVl g' h' ar N N as' sr ∧ VQ g' r' n0 ce0 N as' sr G' ∧ (r'.2.2.1 118) = (r.2.2.1 118) ∧ TKS Dn ce0 sr jj i r r'))
theorem rel_P {P' : Nat → Prop} (hr : REL P G Dn r v) (hP : ∀ c, P c → P' c) : REL P' G Dn r v := ⟨hr.1, fun c hc hn => hr.2.1 c hc (fun y => hn (hP c y)), hr.2.2⟩
theorem vals (hD : Dn < 8) (hce : 363 ≤ ce0 ∧ ce0 + N ≤ 790) : ∀ jj i as (g : gS) v x h h0 l p n r G, i + jj = N → CM g0 h0 ar sa N sr → CB K tb g0 x0 h0 b L F n0 j g v x h → (h.2.2 b).2.2 5 = .int (nI p) → (h.2.2 b).2.2 2 = .int 0 → (g.1 0 1) = n0 + l.length → (∀ i rc, l[i]? = some rc → (g.2.2.2.2.2 11) (n0 + i) = rc) → AVl g h ar N i as sr → (∀ k, k < N → isSrt (g.2.2.2.2.1 2) (g.2.2.2.2.1 3) (sr k)) → prs ((g.2.2.2.2.2 8)) (v.2.2.1 80) ((g.2.2.2.2.2 13)) (g.1 0 4) F n (svL sr jj i) p l = some (q, l') → q ≤ L → l.length ≤ 12 → REL (fun c => ∃ k, k < i ∧ c = ce0 + k) G Dn r v → RSi r A L F p n0 l → VQ g r n0 ce0 i as sr G → ∃ g' v' x' h' h0', VF K tb g0 x0 h0 b L F n0 j A Dn ce0 sr ar sa N D l' q jj i g v x h r g' v' x' h' h0'
  | 0, i, as, g, v, x, h, h0, l, p, n, r, G, hi, hm, hc, h5, h2, hn, hl, ha, hsr, hp, hqL, hl12, hr, hrs, hvq => by
    obtain rfl : i = N := by omega
    obtain ⟨rfl, rfl⟩ := nil_inv hp
    obtain ⟨⟨a1, a2, a3⟩, ⟨b1, b2, b3⟩, ⟨c1, c2, c3⟩, d1, d2⟩ := hm
    obtain ⟨e1, e2⟩ := cb_o hc b2 b3
    obtain ⟨h01, -, -⟩ := cb_lo hc
    refine ⟨g, v, x, h, h0, hc, ba_r, Nat.le_refl _, ⟨Nat.le_refl _, by omega⟩, ⟨by omega, by omega⟩, vw_r, fun d r0 Q => ?_, Or.inr ⟨h2, hn, r, G, as, hr, hrs, ha, hvq, rfl, rfl⟩⟩
    exact x_cmE (sim_146 hc.1.1) d1 ⟨b1, by omega, by rw [e1]; exact c1, by rw [e1]; exact c2⟩
  | jj + 1, i, as, g, v, x, h, h0, l, p, n, r, G, hi, hm, hc, h5, h2, hn, hl, ha, hsr, hp, hqL, hl12, hr, hrs, hvq => by
    have hw := hc.1
    have hm' := hm
    obtain ⟨⟨a1, a2, a3⟩, ⟨b1, b2, b3⟩, ⟨c1, c2, c3⟩, d1, d2⟩ := hm
    obtain ⟨e1, e2⟩ := cb_o hc b2 b3
    obtain ⟨e3, -⟩ := cb_o hc a2 a3
    obtain ⟨h01, hb0, hb1⟩ := cb_lo hc
    have hh := sim_146 hc.1.1
    have t6 := hc.2.1.2.2.1
    have hbn := hc.2.1.2.1
    obtain ⟨n1, p1, l1, n2, f1, -, -, f2⟩ := prs_split n [sr i] (svL sr jj (i + 1)) p l (q, l') hp
    have pp1 := prs_le _ _ _ _ _ _ f1
    have pp2 := prs_le _ _ _ _ _ _ f2
    have ll1 := prs_len _ _ _ _ _ _ f1
    have ll2 := prs_len _ _ _ _ _ _ f2
    have l12 := prs_12 _ _ _ _ _ _ f1 hl12
    obtain ⟨k1, k2, k3⟩ := top_tk (r := r) (ce := ce0 + i) (s := sr i)
    obtain ⟨a, g1, v1, x1, h1, i1, i2, i3, i4, i5, ⟨i6, i6'⟩, ⟨i7, i7'⟩, ⟨i8, i8'⟩, ⟨i9, i9'⟩, i10, i11⟩ := item_all (K := K) (tb := tb) (g0 := g0) (x0 := x0) (h0 := h0) (b := b) (L := L) (F := F) (n0 := n0) (j := j) (A := A) (c0 := nI (ce0 + i)) (s0 := sr i) hD (p1 - p) g v x h (sr i) l l1 p p1 n1 (tk0 r (ce0 + i) (sr i)) 0 _ G (ce0 + i) (by omega) hc h5 h2 hn hl (hsr i (by omega)) f1 (by omega) hl12 ⟨rel_tk hr, rsi_tk hrs, k1, k2, k3, by omega, by omega, fun c ⟨k, hk, hc⟩ => by omega, by omega⟩
    obtain ⟨e4, e5⟩ := cb_o i1 a2 a3
    have e34 : h1.2.2 ar = h.2.2 ar := e4.trans e3.symm
    have nb : b ≠ ar := fun y => by
      have := hc.2.2.2.2.2.2.2.2.2.2.2.2.2.1
      rw [y, a3] at this
      cases this
    have hbh : (hset h1 ar i (.ref a)).2.2 b = h1.2.2 b := hs_o _ _ nb
    have hc2 := cb_base i1 a1 a2 a3 i (.ref a)
    have hav := avl_s (i := i) ha e34 i6 i5 i2 i3
    have hm2 := cm_b hm' i (.ref a)
    have hh1 := sim_146 i1.1.1
    obtain ⟨v9, -⟩ := s_val i1.1.1 i2.2.2 i2.1 i2.2.1
    have hstep : ∀ d r0 Q, Go (d + 34) 143 25 [.ref 5, .ref D, .ref b, .ref sa, .int (nI n0), .ref ar, .int (nI i)] [] (putR r0 (putX x h)) Q = Go (d + 34) 143 25 [.ref 5, .ref D, .ref b, .ref sa, .int (nI n0), .ref ar, .int (nI (i + 1))] [] (putR r0 (putX x1 (hset h1 ar i (.ref a)))) Q := fun d r0 Q => x_cmF (d := d + 33) (sr := sr) hh ⟨b1, by omega, by rw [e1]; exact c1, by rw [e1]; exact c2, by rw [e1]; exact c3 i (by omega)⟩ (by omega) d1 t6 ⟨hb1, by omega⟩ hh1 ⟨a1, by omega, by rw [e34]; exact ha.1.1, by rw [e34]; exact ha.1.2⟩ ⟨i2.1, i2.2.1⟩ v9 (fun Q => i10 (d + 33) r0 Q (by omega))
    rcases i11 with ⟨j1, j60, -⟩ | ⟨j1, j2, j3, j4, r1, G1, u1, u2, u3, ⟨u4, -⟩, u5, u6, u7, u8, u9⟩
    · obtain ⟨g', h', h0', y1, y2, y3, y4, ⟨y5, y6, y7⟩, y8⟩ := cm_z (D := D) jj (i + 1) _ _ _ _ (by omega) hm2 hc2 (by rw [hbh]; exact j1) hav
      rw [hs_1] at y5 y6
      rw [hs_u] at y7
      refine ⟨g', v1, x1, h', h0', y1, ba_s y3 a1 a3, by omega, ⟨by omega, by omega⟩, ⟨by omega, by omega⟩, i9', fun d r0 Q => ?_, Or.inl ⟨y2, by omega⟩⟩
      rw [hstep]
      exact y8 (d + 29) r0 Q
    · have fg1 : (g1.2.2.2.2.2 8) = (g.2.2.2.2.2 8) := i4.2.2.2.2.1 _ (by decide) (by decide)
      have fg2 : (g1.2.2.2.2.2 13) = (g.2.2.2.2.2 13) := i4.2.2.2.2.1 _ (by decide) (by decide)
      have fg3 : (g1.1 0 4) = (g.1 0 4) := i4.1 _ (by decide)
      have fg4 : (g1.2.2.2.2.1 2) = (g.2.2.2.2.1 2) := congrFun i4.2.2.2.1 _
      have fg5 : (g1.2.2.2.2.1 3) = (g.2.2.2.2.1 3) := congrFun i4.2.2.2.1 _
      have f2' : prs ((g1.2.2.2.2.2 8)) (v1.2.2.1 80) ((g1.2.2.2.2.2 13)) (g1.1 0 4) F n2 (svL sr jj (i + 1)) p1 l1 = some (q, l') := by
        rw [fg1, fg2, fg3, vw_f i9']
        exact f2
      have hvq' : VQ g1 r1 n0 ce0 (i + 1) (upN as i a) sr G1 := by
        refine ⟨fun k hk => ?_, fun o => ?_⟩
        · by_cases e : k = i
          · subst e
            rw [upN_s]
            exact ⟨u5, u6⟩
          · rw [upN_n _ _ e]
            obtain ⟨z1, z2⟩ := hvq.1 k (by omega)
            obtain ⟨-, w1, -⟩ := ha.2 k (by omega)
            have hsm : SMc r1 r (ce0 + k) := u7 (ce0 + k) (by omega) (by omega)
            refine ⟨vr_fr hw z1 w1 i5 hsm, ?_⟩
            rw [hsm.1, fg2, fg3]
            exact VV_n i7 (fun m hm => i4.2.2.2.2.2.1 m hm) z2
        · have A1 : ∀ k, k < i → (occ g1 (upN as i a k) o ↔ occ g (as k) o) := fun k hk => by
            rw [upN_n _ _ (show k ≠ i by omega)]
            obtain ⟨-, w1, -⟩ := ha.2 k hk
            exact occ_t (i5 _ w1.2.1 (by rw [w1.2.2]; exact Or.inl rfl)).2.1 fg3
          have A2 : ocN g1 n0 (g.1 0 1) o ↔ ocN g n0 (g.1 0 1) o := ocN_t hw (Nat.le_refl _) i5 fg3 fg1 (fun m' q1 q2 => i4.2.2.2.2.2.1 m' q2) (fun m' k' q1 q2 q3 => i4.2.2.2.2.2.2 (6 * m' + k') (by omega))
          rw [u8 o, hvq.2 o, ← A2]
          constructor
          · rintro ((⟨k, e1, e2⟩ | ⟨m', k', e1, e2, e3⟩) | e | ⟨m', k', e1, e2, e3⟩)
            · exact Or.inl ⟨k, by omega, (A1 k e1).mpr e2⟩
            · exact Or.inr ⟨m', k', e1, by omega, e3⟩
            · exact Or.inl ⟨i, by omega, by rw [upN_s]; exact e⟩
            · exact Or.inr ⟨m', k', by omega, e2, e3⟩
          · rintro (⟨k, e1, e2⟩ | ⟨m', k', e1, e2, e3⟩)
            · by_cases y : k = i
              · subst y
                rw [upN_s] at e2
                exact Or.inr (Or.inl e2)
              · exact Or.inl (Or.inl ⟨k, by omega, (A1 k (by omega)).mp e2⟩)
            · by_cases y : m' < (g.1 0 1)
              · exact Or.inl (Or.inr ⟨m', k', e1, y, e3⟩)
              · exact Or.inr (Or.inr ⟨m', k', by omega, e2, e3⟩)
      have hr1 : REL (fun c => ∃ k, k < i + 1 ∧ c = ce0 + k) G1 Dn r1 v1 := rel_P u1 (fun c hc => by
        rcases hc with ⟨k, y1, y2⟩ | y
        · exact ⟨k, by omega, y2⟩
        · exact ⟨i, by omega, y⟩)
      obtain ⟨g', v', x', h', h0', y1, y2, y3, ⟨y4, y4'⟩, ⟨y5, y5'⟩, yv, y6, y7⟩ := vals hD hce jj (i + 1) _ g1 v1 x1 _ _ l1 p1 n2 r1 G1 (by omega) hm2 hc2 (by rw [hbh]; exact j2) (by rw [hbh]; exact j1) j3 j4 hav (fun k hk => by rw [fg4, fg5]; exact hsr k hk) f2' hqL l12 hr1 u2 hvq'
      rw [hs_1] at y3 y5
      rw [hs_u] at y5'
      refine ⟨g', v', x', h', h0', y1, ba_s y2 a1 a3, by omega, ⟨by omega, y4'⟩, ⟨by omega, by omega⟩, vw_t yv i9', fun d r0 Q => ?_, ?_⟩
      · rw [hstep]
        exact y6 d r0 Q
      · rcases y7 with y7 | ⟨z1, z2, r', G', as', z3, z4, z5, z6, zs, z7⟩
        · exact Or.inl y7
        · refine Or.inr ⟨z1, z2, r', G', as', z3, z4, z5, z6, zs.trans u4, r1, ⟨(u1.1.2.2.1 85 (by decide) (by decide) (by decide) (by decide) (by decide) (by decide) (by decide) (by decide) (by decide) (by decide) (by decide) (by decide) (by decide)).trans ((i9'.2.2.1 85 (by decide) (by decide) (by decide)).trans (hr.1.2.2.1 85 (by decide) (by decide) (by decide) (by decide) (by decide) (by decide) (by decide) (by decide) (by decide) (by decide) (by decide) (by decide) (by decide)).symm), (u1.1.2.2.1 86 (by decide) (by decide) (by decide) (by decide) (by decide) (by decide) (by decide) (by decide) (by decide) (by decide) (by decide) (by decide) (by decide)).trans ((i9'.2.2.1 86 (by decide) (by decide) (by decide)).trans (hr.1.2.2.1 86 (by decide) (by decide) (by decide) (by decide) (by decide) (by decide) (by decide) (by decide) (by decide) (by decide) (by decide) (by decide) (by decide)).symm)⟩, fun d H Q hH => ?_, z7⟩
          obtain ⟨ls, w1, w2⟩ := r_take0 (r := r) (h := H) (d := d + 2) (ce := ce0 + i) (Dn := Dn) (s := sr i) (Q := Q) hH (by omega)
          obtain ⟨ls', w3, w4⟩ := u9 d H Q ls hH w1
          rw [w2, w4]
          exact r_takeE (d := d + 3) hH u3 w3
end
