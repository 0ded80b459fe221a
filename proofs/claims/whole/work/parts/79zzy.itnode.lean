section
variable {K : Nat → pcell} {tb : Nat} {g g' g0 g1 g2 : gS} {r r' r0 v v' : rS} {x x' x0 x1 : xS} {h h' h0 h1 : pheap} {d : Nat} {Q : Option Value → pheap → Prop} {a n k m rc b L n0 p q j t c c2 c3 no A ce T Dn m0 m1 o ll : Nat} {F fs : Nat → Int32} {l l' : List Nat} {s z c0 s0 : Int32} {w u : Int64} {os fc : Nat → Nat} {P G : Nat → Prop}
/-- a node, where there is room -/
theorem it_node (hI : ITEM K tb g0 x0 h0 b L F n0 j A Dn c0 s0 t) (hc : CB K tb g0 x0 h0 b L F n0 j g v x h) (h5 : (h.2.2 b).2.2 5 = .int (nI p)) (h2 : (h.2.2 b).2.2 2 = .int 0) (hF : F p = 253) (hp : p < L) (hrc : rc < (g.2.2.2.2.1 2)) (hn : (g.1 0 1) < 60) (hnl : (g.1 0 1) = n0 + l.length) (hl : ∀ i rc, l[i]? = some rc → (g.2.2.2.2.2 11) (n0 + i) = rc) (hl12 : l.length < 12) (hprs : prs ((g.2.2.2.2.2 8)) (v.2.2.1 80) ((g.2.2.2.2.2 13)) (g.1 0 4) F n (fsL ((g.2.2.2.2.2 8)) (v.2.2.1 80) rc) (p + 1) (l ++ [rc]) = some (q, l')) (hqt : q ≤ p + 1 + t) (hqL : q ≤ L) (hR : HR A L F n0 Dn l p (nI (10 + rc)) g v r T P G ce) : ∃ a g' v' x' h', IC K tb g0 x0 h0 b L F n0 j A Dn c0 s0 l l' q (nI (10 + rc)) g v x h r T P G ce a g' v' x' h' := by
  have hw := hc.1
  have hh := sim_146 hw.1
  obtain ⟨h01, hb0, hb1⟩ := cb_lo hc
  have hrn := (w_rn hw).2
  obtain ⟨f1, f2, f3⟩ := (w_book hw).2.2.2.1 rc hrc
  have hnn1 := (w_nn hw).1
  have hne : ∀ c : Nat, c < 10 → nI (10 + rc) ≠ nI c := fun c hc y => by
    rw [ni_eq (by omega) (by omega)] at y
    omega
  have hno : ¬ (nI (10 + rc) = 0 ∨ nI (10 + rc) = 1 ∨ nI (10 + rc) = 2 ∨ nI (10 + rc) = 3 ∨ nI (10 + rc) = 4) := by
    rintro (y | y | y | y | y)
    · exact hne 0 (by omega) y
    · exact hne 1 (by omega) y
    · exact hne 2 (by omega) y
    · exact hne 3 (by omega) y
    · exact hne 4 (by omega) y
  have s20 : ¬ (20 : Int32) ≤ nI (10 + rc) := fun y => by
    have y' : nI 20 ≤ nI (10 + rc) := y
    rw [ni_le (by omega) (by omega)] at y'
    omega
  have e10 : nI (10 + rc) - 10 = nI rc := by
    have := ni_sub (a := 10 + rc) (b := 10) (by omega)
    rw [show 10 + rc - 10 = rc by omega] at this
    exact this
  obtain ⟨hr, ⟨hmr, hcm, hcn⟩, t1, t2, t3, t4, hce, hP, hPc⟩ := hR
  have hrow : ∀ a, a ≠ 134 → a ≠ 135 → a ≠ 136 → a ≠ 137 → a ≠ 133 → a ≠ 138 → a ≠ 145 → a ≠ 131 → a ≠ 132 → a ≠ 88 → a ≠ 89 → a ≠ 95 → a ≠ 118 → r.2.2.1 a = v.2.2.1 a := hr.1.2.2.1
  obtain ⟨r1, hnr, run1⟩ := nd_ref (c0 := c0) (s0 := s0) (D := nI Dn) (n := (g.1 0 1)) (rc := rc) (m := (g.2.2.2.2.2 8) rc) (cl := l.length) (fs := fun i => v.2.2.1 80 (6 * rc + i)) t1 (by omega) (by omega) t2 t3 hce hmr hF hp ((hr.1.1 32 (by decide) (by decide) (by decide) (by decide) (by decide) (by decide) (by decide) (by decide)).trans hnn1) hn (by omega) (by rw [hrow 78 (by decide) (by decide) (by decide) (by decide) (by decide) (by decide) (by decide) (by decide) (by decide) (by decide) (by decide) (by decide) (by decide)]; exact f1) f2 (fun i => by rw [hrow 80 (by decide) (by decide) (by decide) (by decide) (by decide) (by decide) (by decide) (by decide) (by decide) (by decide) (by decide) (by decide) (by decide)]) hcm hl12
  have hr1 := rel_nd hr hnr
  have hc1 := cb_at hc (k := 5) (Or.inr rfl) (nI (p + 1))
  have hb5 : ((hset h b 5 (.int (nI (p + 1)))).2.2 b).2.2 5 = .int (nI (p + 1)) := by
    rw [hs_s]
    dsimp only
    rw [uv_s]
  have hb2 : ((hset h b 5 (.int (nI (p + 1)))).2.2 b).2.2 2 = .int 0 := by
    rw [hs_s]
    dsimp only
    rw [uv_o _ _ (show (2 : Nat) ≠ 5 by decide)]
    exact h2
  obtain ⟨g1, x1, h1, hcB, hN, hbb, runB⟩ := x_rnB hc1 hrc hn
  have rv := fun d r0 Q x' h' i => x_rvD (d := d) (r0 := r0) (Q := Q) (c2 := x.2 0) (c3 := 20) (x' := x') (i := i) (h' := h') hc h5 h2 hno s20 hF hp
  rw [e10] at rv
  have eH : (hset h b 5 (.int (nI (p + 1)))).1 = h.1 := rfl
  have eU : (hset h b 5 (.int (nI (p + 1)))).2.1 = h.2.1 := rfl
  generalize hset h b 5 (.int (nI (p + 1))) = hX at *
  rw [eH] at runB
  obtain ⟨⟨a1, a2, a3, a4, a5⟩, ⟨b1, b2, b3, b4, b5⟩, cc, ⟨d1, d2, d3⟩, ex1, ex2⟩ := hN
  rw [eH] at a2 cc d1 d2
  rw [eU] at d3
  have q1 : (g1.2.2.2.2.2 8) = (g.2.2.2.2.2 8) := b2 _ (by decide) (by decide)
  have q2 : (g1.2.2.2.2.2 13) = (g.2.2.2.2.2 13) := b2 _ (by decide) (by decide)
  have q3 : (g1.1 0 4) = (g.1 0 4) := a5 _ (by decide)
  have hl1 : (l ++ [rc]).length = l.length + 1 := by rw [List.length_append, List.length_singleton]
  obtain ⟨n1, n2, n3, n4, n5, n6, n7, n8, n9, n10, n11, n12, n13, n14⟩ := hnr
  obtain ⟨g2, v2, x2, h2', F1, F2, F3, F4, ⟨F5, F5'⟩, ⟨F6, F6'⟩, ⟨F7, F7'⟩, F8, F9⟩ := flds (rc := rc) (T := T) (ll := l.length + 1) (q := q) (l' := l') (m := (g.1 0 1)) hI (by omega) (P := fun c => P c ∨ c = ce) (fun c hc => by
    rcases hc with hc | hc
    · exact hP c hc
    · rw [hc]; exact hPc) ((g.2.2.2.2.2 8) rc) 0 g1 _ x1 h1 (l ++ [rc]) (p + 1) n r1 G hcB (by rw [hbb]; exact hb5) (by rw [hbb]; exact hb2) (by omega) (by rw [hl1]; omega) (fun i rc' e => by
      by_cases y : i < l.length
      · rw [List.getElem?_append_left y] at e
        rw [b4 _ (by omega)]
        exact hl i rc' e
      · rw [List.getElem?_append_right (by omega)] at e
        have y0 : i - l.length = 0 := by
          have := (List.getElem?_eq_some_iff.mp e).1
          rw [List.length_singleton] at this
          omega
        rw [y0] at e
        cases e
        rw [show n0 + i = (g.1 0 1) by omega]
        exact b3) (by rw [q1, b3]; omega) (by
      rw [q1, q2, q3, b3, ← hprs, fsL_T]
      rfl) hqt hqL (by rw [hl1]; omega) (by rw [hl1]; omega) hr1 ⟨⟨n3, by rw [n1 _ (by decide) (by decide) (by decide) (by decide)]; exact hmr.2.1, by rw [n7 _ (by decide) (by decide) (by decide) (by decide) (by decide)]; exact hmr.2.2.1, hmr.2.2.2⟩, by rw [hl1]; exact n4, fun i hi => by
        rw [hl1] at hi
        rw [n12]
        by_cases y : i = l.length
        · rw [y, upN_s, ← hnl]
        · rw [upN_n _ _ y]
          exact hcn i (by omega)⟩ n2 (fun i hi => by
        obtain ⟨z1, z2⟩ := n14 i hi
        rw [b3, Nat.zero_add]
        refine ⟨z1, ?_⟩
        rw [z2, Nat.add_assoc]) (by rw [hl1]; omega)
  have hx0 : x1.2 0 = x.2 0 := ex2 0 (by decide)
  rw [hx0, a2] at F8
  have hh2 := sim_146 F1.1.1
  obtain ⟨k01, -, -⟩ := cb_lo F1
  have hc3 := cb_val (s := nI (10 + rc)) (v := (nI (g.1 0 1)).toInt64) (t := 0) F1 (fun y => absurd rfl y)
  have hva : (gW g2 h2'.1 (nI (10 + rc)) (nI (g.1 0 1)).toInt64 0).2.1 h2'.1 = (nI (10 + rc), (nI (g.1 0 1)).toInt64, 0) := gP_va
  have hfr3 : FRv (gW g2 h2'.1 (nI (10 + rc)) (nI (g.1 0 1)).toInt64 0) g2 h2'.1 := fun a ha _ => ⟨gP_rn (by omega), gP_vn (by omega), gP_an (by omega)⟩
  have hfr1 : FRv g1 g h.1 := fun a ha hro => by
    obtain ⟨z1, z2, z3, -⟩ := cc a ha (fun y => by
      rw [y] at hro
      rcases hro with z | z
      · exact absurd z (by decide)
      · exact absurd z (by decide))
    exact ⟨z1, z2, z3⟩
  have nr2 : (g2.2.2.2.2.2 11) (g.1 0 1) = rc := (F2.2.2.2.2.2.1 (g.1 0 1) (by omega)).trans b3
  have hvv : VV (g2.1 0 1) (g2.1 0 4) ((g2.2.2.2.2.2 11)) ((g2.2.2.2.2.2 13)) (nI (g.1 0 1)).toInt64 (nI (10 + rc)) := ⟨fun y => absurd (Or.inl y) hno, fun y => absurd (Or.inr (Or.inr (Or.inr (Or.inl y)))) hno, fun k hk e => Or.inr ⟨(g.1 0 1), by omega, by
    rw [ni_eq (by omega) (by omega)] at e
    rw [nr2]
    omega, rfl⟩, fun k hk e => by
    rw [ni_eq (by omega) (by omega)] at e
    omega⟩
  refine ⟨h2'.1, gW g2 h2'.1 (nI (10 + rc)) (nI (g.1 0 1)).toInt64 0, v2, x2, mkV h2' (nI (10 + rc)) (nI (g.1 0 1)).toInt64 0, hc3, ⟨hh2, by rw [mkV_1]; omega, gP_ro⟩, by rw [hva], ?_, frv_t hfr3 (frv_t F3 hfr1 (by omega)) (by omega), ⟨by rw [mkV_1]; omega, by omega⟩, ⟨by show (g.1 0 1) ≤ (g2.1 0 1); omega, F5'⟩, ⟨?_, ?_⟩, ⟨F7.trans hx0, vw_t F7' vw_n⟩, fun d r0 Q hd => ?_, ?_⟩
  · exact ⟨fun k hk => (F2.1 k hk).trans (a5 k hk), fun a p q => (F2.2.1 a p q).trans (a4 a p q), fun m hm => (F2.2.2.1 m (by omega)).trans (a3 m (by omega)), F2.2.2.2.1.trans b1, fun a p q => (F2.2.2.2.2.1 a p q).trans (b2 a p q), fun m hm => (F2.2.2.2.2.2.1 m (by omega)).trans (b4 m (by omega)), fun i hi => (F2.2.2.2.2.2.2 i (by omega) (Or.inl (by omega))).trans (b5 i hi)⟩
  · rw [mkV_1]
    show h2'.1 + 1 + 21 * (g.1 0 1) ≤ h.1 + 2 + 21 * (g2.1 0 1)
    omega
  · rw [mkV_u]
    show h2'.2.1 + 3 + 240 * (g.1 0 1) ≤ h.2.1 + 19 + 240 * (g2.1 0 1)
    omega
  · obtain ⟨d', rfl⟩ : ∃ d', d = d' + 4 + 4 := ⟨d - 8, by omega⟩
    exact rv (d' + 4) r0 Q x2 h2' (nI (g.1 0 1)) hh2 (fun Q => (runB d' r0 Q).trans (F8 (d' + 7) r0 Q (by omega)))
  · rcases F9 with y | ⟨u1, u2, u3, u4, r2, G2, w1, w2, w3, w4, w5, w6, w7⟩
    · exact Or.inl ⟨by rw [mkV_o (by omega)]; exact y.1, y.2, _, hva, hvv⟩
    · have hnum : (r2.2.2.2 87) ce = (nI (g.1 0 1)).toInt64 := (w5 ce hPc).1.trans (by rw [n11, upN_s])
      refine Or.inr ⟨by rw [mkV_o (by omega)]; exact u1, by rw [mkV_o (by omega)]; exact u2, u3, u4, r2, G2, w1, w2, w3, ⟨w4.1.trans (n7 _ (by decide) (by decide) (by decide) (by decide) (by decide)), fun i hi => ?_⟩, ⟨by rw [hva], fun _ => ⟨by rw [hva]; exact hnum.symm, by rw [hva]⟩, fun y => absurd y (hne 4 (by omega))⟩, by rw [hnum]; exact hvv, fun c hc hcn' => ?_, fun o => ?_, fun d H Q ls hH hls => ?_⟩
      · obtain ⟨z1, z2⟩ := w4.2 i hi
        obtain ⟨z3, z4⟩ := n13 i hi
        exact ⟨z1.trans z3, z2.trans z4⟩
      · obtain ⟨z1, z2, z3⟩ := w5 c hc
        refine ⟨z1.trans ?_, z2.trans ?_, fun k hk => (z3 k hk).trans ?_⟩
        · rw [n11, upN_n _ _ hcn', wrL_o _ _ (by omega)]
        · rw [n9, upN_n _ _ hcn', wrF_o _ _ (by omega)]
        · rw [n7 _ (by decide) (by decide) (by decide) (by decide) (by decide)]
      · have A1 : ocN (gW g2 h2'.1 (nI (10 + rc)) (nI (g.1 0 1)).toInt64 0) (g.1 0 1) (g2.1 0 1) o ↔ ocN g2 (g.1 0 1) (g2.1 0 1) o := ocN_t F1.1 (Nat.le_refl _) hfr3 rfl rfl (fun _ _ _ => rfl) (fun _ _ _ _ _ => rfl)
        have en : (gW g2 h2'.1 (nI (10 + rc)) (nI (g.1 0 1)).toInt64 0).1 0 1 = (g2.1 0 1) := rfl
        have fc2 : (g2.2.2.2.2.2 8) = (g1.2.2.2.2.2 8) := F2.2.2.2.2.1 _ (by decide) (by decide)
        rw [en, w6 o, A1, b3]
        constructor
        · rintro (e | ⟨k', e1, e2, e3⟩ | ⟨m', k', e1, e2, e3⟩)
          · exact Or.inl e
          · exact Or.inr (Or.inr ⟨(g.1 0 1), k', Nat.le_refl _, by omega, by rw [nr2, fc2]; exact e2, e3⟩)
          · exact Or.inr (Or.inr ⟨m', k', by omega, e2, e3⟩)
        · rintro (e | ⟨e1, e2, e3⟩ | ⟨m', k', e1, e2, e3, e4⟩)
          · exact Or.inl e
          · rw [hva] at e2
            exact absurd e2 s20
          · by_cases y : m' = (g.1 0 1)
            · subst y
              rw [nr2, fc2] at e3
              exact Or.inr (Or.inl ⟨k', Nat.zero_le _, e3, e4⟩)
            · exact Or.inr (Or.inr ⟨m', k', by omega, e2, e3, e4⟩)
      · obtain ⟨ls1, q1', q2'⟩ := run1 d H Q ls hH hls
        obtain ⟨ls2, q3', q4'⟩ := w7 d H Q ls1 hH q1'
        exact ⟨ls2, q3', q2'.trans q4'⟩
end
