/-! an answer goes on the shelf -/
section
variable {K : Nat → pcell} {tb : Nat} {g g' : gS} {r r' r0 r1 r2 s' : rS} {x x' xb : xS} {h h' : pheap} {a n k m i c p q d va ta L : Nat} {Q : Option Value → pheap → Prop} {nt e : Int32}
def shG (g : gS) (c a L : Nat) : gS := (g.1, g.2.1, g.2.2.1, g.2.2.2.1, g.2.2.2.2.1, upN (upN g.2.2.2.2.2 20 (upN ((g.2.2.2.2.2 20)) c a)) 34 (upN ((g.2.2.2.2.2 34)) c L))
def shR (r : rS) (c L : Nat) : rS := (r.1, r.2.1, upN (upN (upN r.2.2.1 128 (upN ((r.2.2.1 128)) c (nI L))) 127 (wrF ((r.2.2.1 127)) ((r.2.2.1 134)) (240 * c) L)) 126 (upN ((r.2.2.1 126)) c 1), r.2.2.2)
theorem w_shelf (hw : World K tb g r x h) (hc : c < (g.1 0 5)) (hl : (g.2.2.2.2.2 14) c ≠ (g.2.2.2.2.2 15) c) (h0 : (g.2.2.2.2.2 34) c = 0) (hb : (r.2.2.1 125) c = 1 ∨ (r.2.2.1 123) (240 * c + 2) ≠ (r.2.2.1 93) ((g.2.2.2.2.2 15) c)) (hi : ∀ i, i < (g.1 0 5) → (g.2.2.2.2.2 18) i = c + 1 → (r.2.2.1 118) i ≠ 0)
    (ha : okP g.2.2.2.1 h.1 a (2, 0)) (hL1 : 1 ≤ L) (hL : L ≤ 240) (har : (g.2.2.1 a).1 = L) (hab : ∀ k, k < L → isB ((r.2.2.1 134) k) ∧ (g.2.2.1 a).2 k = sb ((r.2.2.1 134) k)) (hf : AF g r (eSort g r c) L) : World K tb (shG g c a L) (shR r c L) x (hset h ((g.1 6) c) 12 (.ref a)) := by
  obtain ⟨c1, c2, c3⟩ := w_nc hw
  obtain ⟨hSi, hI, hms⟩ := hw
  obtain ⟨hCnt, hTxt, hBk, hDs, hOb, hNo, hVa, hFa, hCa, hWy⟩ := hI
  obtain ⟨m1, m2, m3, m4, m5⟩ := hms
  have hs' := hSi
  obtain ⟨s0, pf, hC, bk, vr, kp, ft, flx, fw, fx⟩ := hSi
  have a0 : a ≠ 0 := by have := ha.1; omega
  have gss : (shG g c a L).2.2.2.2.2 20 c = a := upN_s _ _ _
  have gsn : ∀ j, j ≠ c → (shG g c a L).2.2.2.2.2 20 j = (g.2.2.2.2.2 20) j := fun j hj => upN_n _ _ hj
  have gzs : (shG g c a L).2.2.2.2.2 34 c = L := upN_s _ _ _
  have gzn : ∀ j, j ≠ c → (shG g c a L).2.2.2.2.2 34 j = (g.2.2.2.2.2 34) j := fun j hj => upN_n _ _ hj
  have rzs : (shR r c L).2.2.1 128 c = nI L := upN_s _ _ _
  have rzn : ∀ j, j ≠ c → (shR r c L).2.2.1 128 j = (r.2.2.1 128) j := fun j hj => upN_n _ _ hj
  have rss : (shR r c L).2.2.1 126 c = 1 := upN_s _ _ _
  have rsn : ∀ j, j ≠ c → (shR r c L).2.2.1 126 j = (r.2.2.1 126) j := fun j hj => upN_n _ _ hj
  have ras : ∀ k, k < L → (shR r c L).2.2.1 127 (240 * c + k) = (r.2.2.1 134) k := fun k hk => wrF_i ((r.2.2.1 127)) ((r.2.2.1 134)) (s := 240 * c) (j := L) hk
  have ran : ∀ j k, j ≠ c → k < 240 → (shR r c L).2.2.1 127 (240 * j + k) = (r.2.2.1 127) (240 * j + k) := fun j k hj hk => wrF_o ((r.2.2.1 127)) ((r.2.2.1 134)) (s := 240 * c) (j := L) (k := 240 * j + k) (by omega)
  have haz : ∀ j, j < (g.1 0 5) → (g.2.2.2.2.2 34) j ≤ 240 := fun j hj => (hCa j hj).2.2.2.2.2.2.2.2.2.2.2.2.2.2.2.2.2.2.2.1
  refine ⟨op_calG (g' := shG g c a L) (r' := shR r c L) hs' hc rfl (fun b hb => hs_o _ _ hb) rfl rfl rfl (fun p q hp => ?_) (fun b hb hr => ?_) (fun b q hb hc => ?_) (fun j q hj hjn hc => ?_) (fun hc => ?_) (fun z => z) vr (fun j hj => ?_) ft fw fx, ⟨hCnt, hTxt, hBk, hDs, hOb, hNo, hVa, hFa, fun j hj => ?_, ⟨hWy.1, fun j hj w hw => ?_⟩⟩, fun i hin => ?_, ⟨m2.1, fun j hj => ?_⟩, m3, fun j hj hz => ?_, fun j hj => ?_⟩
  · rcases hp with hp | hp | hp | hp | hp | ⟨k, hk, hl⟩ | hp
    · exact pf.1 p q (Or.inl hp)
    · exact pf.1 p q (Or.inr (Or.inl hp))
    · exact pf.1 p q (Or.inr (Or.inr (Or.inl hp)))
    · exact pf.1 p q (Or.inr (Or.inr (Or.inr (Or.inl hp))))
    · exact pf.1 p q (Or.inr (Or.inr (Or.inr (Or.inr (Or.inl hp)))))
    · have hz : ∀ z, Ref0 g x.2 p q := fun z => Or.inr (Or.inr (Or.inr (Or.inr (Or.inr (Or.inl ⟨k, hk, z⟩)))))
      rcases hl with y | y | ⟨y1, y2, y3⟩ | y | y
      · exact pf.1 p q (hz (Or.inl y))
      · exact pf.1 p q (hz (Or.inr (Or.inl y)))
      · by_cases e : k = c
        · rw [e, gss] at y1 y2
          rw [y2, y3]; exact ha
        · rw [gsn k e] at y1 y2
          exact pf.1 p q (hz (Or.inr (Or.inr (Or.inl ⟨y1, y2, y3⟩))))
      · exact pf.1 p q (hz (Or.inr (Or.inr (Or.inr (Or.inl y)))))
      · exact pf.1 p q (hz (Or.inr (Or.inr (Or.inr (Or.inr y)))))
    · exact pf.1 p q (Or.inr (Or.inr (Or.inr (Or.inr (Or.inr (Or.inr hp))))))
  · rcases hr with hp | hp | hp | hp | hp | ⟨k, hk, hl⟩ | hp
    · exact Or.inl hp
    · exact Or.inr (Or.inl hp)
    · exact Or.inr (Or.inr (Or.inl hp))
    · exact Or.inr (Or.inr (Or.inr (Or.inl hp)))
    · exact Or.inr (Or.inr (Or.inr (Or.inr (Or.inl hp))))
    · refine Or.inr (Or.inr (Or.inr (Or.inr (Or.inr (Or.inl ⟨k, hk, ?_⟩)))))
      rcases hl with y | y | ⟨y1, y2, y3⟩ | y | y
      · exact Or.inl y
      · exact Or.inr (Or.inl y)
      · rw [y3] at hb
        exact absurd hb (by decide)
      · exact Or.inr (Or.inr (Or.inr (Or.inl y)))
      · exact Or.inr (Or.inr (Or.inr (Or.inr y)))
    · exact Or.inr (Or.inr (Or.inr (Or.inr (Or.inr (Or.inr hp)))))
  · obtain ⟨c1, c2, c3, c4, c5, c6, c7, c8, c9, c10, c11, c12, c13, c14, c15, c16, c17, c18⟩ := hc
    exact ⟨c1, c2, c3, c4, c5, c6, c7, c8, c9, c10, c11, c12, c13, fun z => absurd z hb, c15, c16, c17, c18⟩
  · unfold calC at hc ⊢
    rw [gsn j hj]
    exact hc
  · unfold calC at hc ⊢
    rw [gss, hs_s]
    obtain ⟨t, q0, q1, q2, q3, q4, q5, q6, q7, q8, q9, q10, q11, q12, q13, q14, q15, q16⟩ := hc
    exact ⟨t, q0, q1, q2, q3, q4, q5, q6, q7, q8, q9, q10, q11, (pv_n a0).symm, q13, q14, q15, q16⟩
  · obtain ⟨k1, k2, k3, k4, k5, k6, k7⟩ := kp j hj
    by_cases e : j = c
    · subst e
      rw [gss, gzs, rss]
      refine ⟨k1, k2, ⟨fun z => absurd z a0, fun z => absurd z (by decide)⟩, fun _ => ⟨har, fun k hk => ?_⟩, k5, k6, k7⟩
      show isB ((shR r j L).2.2.1 127 (240 * j + k)) ∧ (g.2.2.1 a).2 k = sb ((shR r j L).2.2.1 127 (240 * j + k))
      rw [ras k hk]
      exact hab k hk
    · rw [gsn j e, gzn j e, rsn j e]
      refine ⟨k1, k2, k3, fun z => ⟨(k4 z).1, fun k hk => ?_⟩, k5, k6, k7⟩
      have := haz j hj
      have h1 := (k4 z).2 k hk
      show isB ((shR r c L).2.2.1 127 (240 * j + k)) ∧ _ = sb ((shR r c L).2.2.1 127 (240 * j + k))
      rw [ran j k e (by omega)]
      exact h1
  · obtain ⟨u1, u2, u3, u4, u5, u6, u7, u8, u9, u10, u11, u12, u13, u14, u15, u16, u17, u18, u19, u20, u21⟩ := hCa j hj
    by_cases e : j = c
    · subst e
      rw [gzs, rzs, rss]
      exact ⟨u1, u2, u3, u4, u5, u6, u7, u8, u9, u10, u11, u12, u13, Or.inr rfl, u15, u16, u17, u18, rfl, hL, u21⟩
    · rw [gzn j e, rzn j e, rsn j e]
      exact ⟨u1, u2, u3, u4, u5, u6, u7, u8, u9, u10, u11, u12, u13, u14, u15, u16, u17, u18, u19, u20, u21⟩
  · obtain ⟨y1, y2, y3⟩ := hWy.2 j hj w hw
    refine ⟨fun z => ?_, y2, y3⟩
    have z' : (g.1 0 5) ≤ j := z
    rw [rzn j (by omega)]
    exact y1 z
  · obtain ⟨w, j, p, M, y1, y2, y3, y4, y5, y6, y7, y8, y9, y10, y11, y12⟩ := m1 i hin
    refine ⟨w, j, p, M, y1, y2, y3, y4, y5, y6, y7, y8, y9, y10, fun z => ?_, y12⟩
    rcases y11 z with q | ⟨q1, q2, q3, q4⟩
    · exact Or.inl q
    · have e : j ≠ c := fun z => q1 (by rw [z]; exact h0)
      refine Or.inr ?_
      rw [gzn j e]
      refine ⟨q1, q2, q3, fun k hk => ?_⟩
      have h1 := haz j y2
      have h2 := cS_l ((g.2.2.2.2.2 34) j) p (nP_p (by omega))
      exact (q4 k hk).trans (ran j (24 * p + k) e (by omega)).symm
  · obtain ⟨y1, y2, y3, y4⟩ := m2.2 j hj
    by_cases e : j = c
    · subst e
      rw [gzs]
      have g0 : (g.2.2.2.2.2 31) (60 + j) = 0 := Decidable.byContradiction fun z => y4 z h0
      exact ⟨y1, y2, fun z => absurd g0 z, fun z => absurd g0 z⟩
    · rw [gzn j e]
      refine ⟨y1, y2, fun z => ?_, y4⟩
      obtain ⟨q1, q2, q3, q4⟩ := y3 z
      refine ⟨q1, q2, q3, fun p hp hbt => ⟨(q4 p hp hbt).1, fun k hk => ?_⟩⟩
      have h1 := haz j hj
      have h2 := cS_l ((g.2.2.2.2.2 34) j) p (nP_p (by have : p < (g.2.2.2.2.2 30) (60 + j) := hp; omega))
      exact ((q4 p hp hbt).2 k hk).trans (ran j (24 * p + k) e (by omega)).symm
  · by_cases e : j = c
    · subst e
      rw [gzs]
      refine ⟨hl, fun k hk => by rw [ras k hk]; exact (hab k hk).1, ?_⟩
      have e0 : (shR r j L).2.2.1 127 (240 * j) = (r.2.2.1 134) 0 := by
        have := ras 0 (by omega)
        rw [Nat.add_zero] at this
        exact this
      rw [e0]
      rcases hf with ⟨f1, n, l, f2⟩ | ⟨f1, m, f2, f3, f4, f5⟩
      · refine Or.inl ⟨f1, n, l, ?_⟩
        exact prs_f (f := (r.2.2.1 134)) (f' := fun k => (shR r j L).2.2.1 127 (240 * j + k)) (fun k hk => ras k hk) n _ _ _ _ f2
      · refine Or.inr ⟨f1, m, f2, f3, f4, fun i hi => ?_⟩
        obtain ⟨k, k1, k2⟩ := f5 i hi
        refine ⟨k, k1, ?_⟩
        rw [ras _ (by omega)]
        exact k2
    · rw [gzn j e] at hz ⊢
      obtain ⟨q1, q2, q3⟩ := m4 j hj hz
      have h1 := haz j hj
      have e0 : (shR r c L).2.2.1 127 (240 * j) = (r.2.2.1 127) (240 * j) := by
        have := ran j 0 e (by omega)
        rw [Nat.add_zero] at this
        exact this
      refine ⟨q1, fun k hk => by rw [ran j k e (by omega)]; exact q2 k hk, ?_⟩
      rw [e0]
      rcases q3 with ⟨f1, n, l, f2⟩ | ⟨f1, m, f2, f3, f4, f5⟩
      · refine Or.inl ⟨f1, n, l, ?_⟩
        exact prs_f (f := fun k => (r.2.2.1 127) (240 * j + k)) (f' := fun k => (shR r c L).2.2.1 127 (240 * j + k)) (fun k hk => ran j k e (by omega)) n _ _ _ _ f2
      · refine Or.inr ⟨f1, m, f2, f3, f4, fun i hi => ?_⟩
        obtain ⟨k, k1, k2⟩ := f5 i hi
        refine ⟨k, k1, ?_⟩
        rw [ran j _ e (by omega)]
        exact k2
  · obtain ⟨y1, y2, y3, y4, y5, y6⟩ := m5 j hj
    by_cases e : j = c
    · subst e
      rw [gzs, rss]
      refine ⟨y1, fun zl z => hb, fun _ => by omega, fun i hin hio => ?_, y5, y6⟩
      obtain ⟨z1, z2, z3, z4⟩ := y4 i hin hio
      exact ⟨z1, z2, fun z => absurd z (hi i hin hio), z4⟩
    · rw [gzn j e, rsn j e]
      exact ⟨y1, y2, y3, y4, y5, y6⟩
end
