/-! a call is over -/
section
variable {K : Nat → pcell} {tb : Nat} {g g' g0 g1 : gS} {r r' r0 : rS} {x x' x1 : xS} {h h' h1 : pheap} {d : Nat} {Q : Option Value → pheap → Prop} {a n k m i c va ta : Nat} {v e : Int32} {N : Nat → Int64} {L S T : Nat → Int32}
/-- the cell of one call becomes another -/
theorem op_calG (hs : Sim K g r x h) (hi : i < (g.1 0 5)) (eh1 : h'.1 = h.1) (eho : ∀ b, b ≠ (g.1 6) i → h'.2.2 b = h.2.2 b) (e4 : g'.2.2.2.1 = g.2.2.2.1) (e5 : g'.1 = g.1) (e2 : g'.2.1 = g.2.1)
    (hR1 : ∀ p c, Ref0 g' x.2 p c → okP g.2.2.2.1 h.1 p c) (hR2 : ∀ b, 4 ≤ (g.2.2.2.1 b).1 → Ref0 g x.2 b (g.2.2.2.1 b) → Ref0 g' x.2 b (g.2.2.2.1 b))
    (hC1 : ∀ b c, (g.2.2.2.1 b).1 ≠ 14 → Cell g r (x.2 0) b c → Cell g' r' (x.2 0) b c)
    (hC2 : ∀ j c, j ≠ i → j < (g.1 0 5) → calC g r j c → calC g' r' j c)
    (hC3 : calC g r i (h.2.2 ((g.1 6) i)) → calC g' r' i (h'.2.2 ((g.1 6) i)))
    (hbk : BK7 g r x h' → BK7 g' r' x h') (hvr : VRs g' ((r'.2.2.2 87)) ((r'.2.2.1 88)) ((r'.2.2.1 89)) ((r'.2.2.1 91)) ((r'.2.2.1 80)) ((r'.2.2.1 84))) (hkp : Kept g' ((r'.2.2.1 118)) ((r'.2.2.1 126)) ((r'.2.2.1 123)) ((r'.2.2.1 127)) ((r'.2.2.1 132)))
    (hft : FxT g' x ((r'.2.2.1 74)) ((r'.2.2.1 90))) (hfw : FxW g' x ((r'.2.2.1 139))) (hfx : Fx x r') : Sim K g' r' x h' := by
  obtain ⟨a1, a2, a3, a4⟩ := sim_cell hs (ref_cal hi)
  obtain ⟨⟨s1, s2, s3, s4⟩, pf, hC, bk, vr, kp, ft, flx, fw, fx⟩ := hs
  have hbk2 : BK7 g r x h' := by
    rcases bk with ⟨b1, b2⟩ | b1
    · exact Or.inl ⟨b1, fun j hj => by rw [eho (7 + j) (by omega)]; exact b2 j hj⟩
    · exact Or.inr b1
  refine ⟨⟨by rw [eh1]; exact s1, s2, fun b hb => by rw [eho b (by omega)]; exact s3 b hb, fun b hb => by rw [e4]; rw [eh1] at hb; exact s4 b hb⟩, ⟨fun p c hp => by rw [e4, eh1]; exact hR1 p c hp, fun b b1 b2 => ?_, fun b hb => ?_⟩, fun b b1 b2 => ?_, hbk hbk2, hvr, hkp, hft, ?_, hfw, hfx⟩
  · rw [e4] at b1
    rw [e2] at b2 ⊢
    rw [e4, eh1]
    exact pf.2.1 b b1 b2
  · rw [e4] at hb ⊢
    exact hR2 b hb (pf.2.2 b hb)
  · have b2' : b < h.1 := by rw [eh1] at b2; exact b2
    by_cases hb : b = (g.1 6) i
    · subst hb
      obtain ⟨-, -, -, -, -, -, -, -, -, -, -, -, -, c14, -⟩ := a4
      refine cell_14 (by rw [e4, a3]) ?_
      have c := c14 (by rw [a3])
      rw [a3] at c
      rw [e4, a3]
      exact hC3 c
    · rw [eho _ hb]
      have hc := hC b b1 b2'
      by_cases h14 : (g.2.2.2.1 b).1 = 14
      · obtain ⟨-, -, -, -, -, -, -, -, -, -, -, -, -, c14, -⟩ := hc
        have hj : (g.2.2.2.1 b).2 ≠ i := fun q => hb (uniq pf a3 (Prod.ext h14 q) (Nat.le_of_ble_eq_true rfl))
        have hlt := (ref_lt (pf.2.2 b (by omega))).2.2.1 h14
        refine cell_14 (by rw [e4]; exact h14) ?_
        rw [e4]
        exact hC2 _ _ hj hlt (c14 h14)
      · exact hC1 b _ h14 hc
  · unfold FxL
    rw [e5]
    exact flx
def enG (g : gS) (c va ta m : Nat) : gS := (g.1, g.2.1, g.2.2.1, g.2.2.2.1, g.2.2.2.2.1, upN (upN (upN g.2.2.2.2.2 21 (upN ((g.2.2.2.2.2 21)) c va)) 22 (upN ((g.2.2.2.2.2 22)) c ta)) 32 (upN ((g.2.2.2.2.2 32)) c m))
def enR (r : rS) (c : Nat) (v : Int32) (m : Nat) (N : Nat → Int64) (L S T : Nat → Int32) : rS := (r.1, r.2.1, upN (upN (upN (upN (upN r.2.2.1 118 (upN ((r.2.2.1 118)) c v)) 88 L) 89 S) 131 (upN ((r.2.2.1 131)) c (nI m))) 132 T, upN r.2.2.2 87 N)
def enH (h : pheap) (b : Nat) (v : Int32) (va ta : Nat) : pheap := hset (hset (hset h b 7 (.int v)) b 13 (pv va)) b 14 (pv ta)
def eSort (g : gS) (r : rS) (c : Nat) : Int32 := if (g.2.2.2.2.2 17) c = 0 then 0 else (r.2.2.1 84) (8 * (g.2.2.2.2.2 13) ((g.2.2.2.2.2 17) c - 1) + (g.2.2.2.2.2 16) c)
theorem w_end (hw : World K tb g r x h) (hc : c < (g.1 0 5)) (h0 : (r.2.2.1 118) c = 0) (hl : (g.2.2.2.2.2 14) c = (g.2.2.2.2.2 15) c → ∀ i, i < (g.1 0 5) → (g.2.2.2.2.2 18) i = c + 1 → (r.2.2.1 118) i ≠ 0) (hm : m ≤ 12)
    (hv : (v = 1 ∧ va ≠ 0 ∧ ta = 0 ∧ okP g.2.2.2.1 h.1 va (1, 0) ∧ VR g N L S va (eSort g r c) (543 + c) ∧ VV (g.1 0 1) (g.1 0 4) ((g.2.2.2.2.2 11)) ((g.2.2.2.2.2 13)) (N (543 + c)) (eSort g r c)) ∨ (v = 2 ∧ va = 0 ∧ ta ≠ 0 ∧ okP g.2.2.2.1 h.1 ta (3, 0) ∧ (g.2.2.1 ta).1 = 5 * m ∧ ∀ k, k < 5 * m → (g.2.2.1 ta).2 k = T (60 * c + k)))
    (hN : ∀ k, k ≠ 543 + c → N k = (r.2.2.2 87) k) (hL : ∀ k, k ≠ 543 + c → L k = (r.2.2.1 88) k) (hS : ∀ k j, k ≠ 543 + c → j < 16 → S (16 * k + j) = (r.2.2.1 89) (16 * k + j)) (hT : ∀ j k, j ≠ c → k < 60 → T (60 * j + k) = (r.2.2.1 132) (60 * j + k)) : World K tb (enG g c va ta m) (enR r c v m N L S T) x (enH h ((g.1 6) c) v va ta) := by
  obtain ⟨c1, c2, c3⟩ := w_nc hw
  obtain ⟨hSi, hI, hms⟩ := hw
  obtain ⟨hCnt, hTxt, hBk, hDs, hOb, hNo, hVa, hFa, hCa, hWy⟩ := hI
  obtain ⟨m1, m2, m3, m4, m5⟩ := hms
  have hs' := hSi
  obtain ⟨s0, pf, hC, bk, vr, kp, ft, flx, fw, fx⟩ := hSi
  have v3 : ∃ k, k ≤ 5 ∧ v = nI k := hv.elim (fun z => ⟨1, by omega, z.1⟩) (fun z => ⟨2, by omega, z.1⟩)
  have v0 : v ≠ 0 := hv.elim (fun z => by rw [z.1]; decide) (fun z => by rw [z.1]; decide)
  have gvs : (enG g c va ta m).2.2.2.2.2 21 c = va := upN_s _ _ _
  have gvn : ∀ j, j ≠ c → (enG g c va ta m).2.2.2.2.2 21 j = (g.2.2.2.2.2 21) j := fun j hj => upN_n _ _ hj
  have gts : (enG g c va ta m).2.2.2.2.2 22 c = ta := upN_s _ _ _
  have gtn : ∀ j, j ≠ c → (enG g c va ta m).2.2.2.2.2 22 j = (g.2.2.2.2.2 22) j := fun j hj => upN_n _ _ hj
  have gms : (enG g c va ta m).2.2.2.2.2 32 c = m := upN_s _ _ _
  have gmn : ∀ j, j ≠ c → (enG g c va ta m).2.2.2.2.2 32 j = (g.2.2.2.2.2 32) j := fun j hj => upN_n _ _ hj
  have rss : (enR r c v m N L S T).2.2.1 118 c = v := upN_s _ _ _
  have rsn : ∀ j, j ≠ c → (enR r c v m N L S T).2.2.1 118 j = (r.2.2.1 118) j := fun j hj => upN_n _ _ hj
  have rms : (enR r c v m N L S T).2.2.1 131 c = nI m := upN_s _ _ _
  have rmn : ∀ j, j ≠ c → (enR r c v m N L S T).2.2.1 131 j = (r.2.2.1 131) j := fun j hj => upN_n _ _ hj
  have hnh : (g.1 0 0) ≤ 3 := hCnt.2.2.1.2
  have hnn : (g.1 0 1) ≤ 60 := hCnt.2.2.2.1.2
  refine ⟨op_calG (g' := enG g c va ta m) (r' := enR r c v m N L S T) hs' hc rfl (fun b hb => by unfold enH; rw [hs_o _ _ hb, hs_o _ _ hb, hs_o _ _ hb]) rfl rfl rfl (fun p q hp => ?_) (fun b hb hr => ?_) (fun b q hb hc => ?_) (fun j q hj hjn hc => ?_) (fun hc => ?_) (fun z => z) ⟨fun k hk => ?_, fun j hj i hi => ?_, fun j hj hz => ?_⟩ (fun j hj => ?_) ft fw fx, ⟨hCnt, hTxt, hBk, hDs, hOb, hNo, ⟨fun k hk => ?_, fun j hj i hi => ?_, fun j hj hz => ?_⟩, hFa, fun j hj => ?_, hWy⟩, m1, m2, m3, m4, fun j hj => ?_⟩
  · rcases hp with hp | hp | hp | hp | hp | ⟨k, hk, hl⟩ | hp
    · exact pf.1 p q (Or.inl hp)
    · exact pf.1 p q (Or.inr (Or.inl hp))
    · exact pf.1 p q (Or.inr (Or.inr (Or.inl hp)))
    · exact pf.1 p q (Or.inr (Or.inr (Or.inr (Or.inl hp))))
    · exact pf.1 p q (Or.inr (Or.inr (Or.inr (Or.inr (Or.inl hp)))))
    · have hz : ∀ z, Ref0 g x.2 p q := fun z => Or.inr (Or.inr (Or.inr (Or.inr (Or.inr (Or.inl ⟨k, hk, z⟩)))))
      rcases hl with y | y | y | ⟨y1, y2, y3⟩ | ⟨y1, y2, y3⟩
      · exact pf.1 p q (hz (Or.inl y))
      · exact pf.1 p q (hz (Or.inr (Or.inl y)))
      · exact pf.1 p q (hz (Or.inr (Or.inr (Or.inl y))))
      · by_cases e : k = c
        · rw [e, gvs] at y1 y2
          rcases hv with ⟨-, -, -, w, -⟩ | ⟨-, w, -⟩
          · rw [y2, y3]; exact w
          · exact absurd w y1
        · rw [gvn k e] at y1 y2
          exact pf.1 p q (hz (Or.inr (Or.inr (Or.inr (Or.inl ⟨y1, y2, y3⟩)))))
      · by_cases e : k = c
        · rw [e, gts] at y1 y2
          rcases hv with ⟨-, -, w, -⟩ | ⟨-, -, -, w, -⟩
          · exact absurd w y1
          · rw [y2, y3]; exact w
        · rw [gtn k e] at y1 y2
          exact pf.1 p q (hz (Or.inr (Or.inr (Or.inr (Or.inr ⟨y1, y2, y3⟩)))))
    · exact pf.1 p q (Or.inr (Or.inr (Or.inr (Or.inr (Or.inr (Or.inr hp))))))
  · rcases hr with hp | hp | hp | hp | hp | ⟨k, hk, hl⟩ | hp
    · exact Or.inl hp
    · exact Or.inr (Or.inl hp)
    · exact Or.inr (Or.inr (Or.inl hp))
    · exact Or.inr (Or.inr (Or.inr (Or.inl hp)))
    · exact Or.inr (Or.inr (Or.inr (Or.inr (Or.inl hp))))
    · refine Or.inr (Or.inr (Or.inr (Or.inr (Or.inr (Or.inl ⟨k, hk, ?_⟩)))))
      rcases hl with y | y | y | ⟨y1, y2, y3⟩ | ⟨y1, y2, y3⟩
      · exact Or.inl y
      · exact Or.inr (Or.inl y)
      · exact Or.inr (Or.inr (Or.inl y))
      · rw [y3] at hb
        exact absurd hb (by decide)
      · rw [y3] at hb
        exact absurd hb (by decide)
    · exact Or.inr (Or.inr (Or.inr (Or.inr (Or.inr (Or.inr hp)))))
  · obtain ⟨c1, c2, c3, c4, c5, c6, c7, c8, c9, c10, c11, c12, c13, c14, c15, c16, c17, c18⟩ := hc
    exact ⟨c1, c2, c3, c4, c5, c6, c7, c8, c9, c10, c11, c12, c13, fun z => absurd z hb, c15, c16, c17, c18⟩
  · unfold calC at hc ⊢
    rw [gvn j hj, gtn j hj, rsn j hj]
    exact hc
  · unfold calC at hc ⊢
    rw [gvs, gts, rss]
    obtain ⟨t, q0, q1, q2, q3, q4, q5, q6, q7, q8, q9, q10, q11, q12, q13, q14, q15, q16⟩ := hc
    unfold enH
    rw [hs_s, hs_s, hs_s]
    exact ⟨t, q0, q1, q2, q3, q4, q5, q6, rfl, q8, q9, q10, q11, q12, rfl, rfl, q15, q16⟩
  · have hk' : k < (g.1 0 0) := hk
    exact VR_c (g := g) (hN _ (by omega)) (hL _ (by omega)) (fun y hy => hS _ y (by omega) hy) rfl rfl (vr.1 k hk)
  · have hj' : j < (g.1 0 1) := hj
    have hi' : i < (g.2.2.2.2.2 8) ((g.2.2.2.2.2 11) j) := hi
    have := (hBk.2.2.2.1 _ (hNo j hj').2).2.1
    exact VR_c (g := g) (hN _ (by omega)) (hL _ (by omega)) (fun y hy => hS _ y (by omega) hy) rfl rfl (vr.2.1 j hj i hi)
  · by_cases e : j = c
    · subst e
      rw [gvs] at hz ⊢
      rcases hv with ⟨-, -, -, -, w, -⟩ | ⟨-, w, -⟩
      · exact w
      · exact absurd w hz
    · rw [gvn j e] at hz ⊢
      exact VR_c (g := g) (hN _ (by omega)) (hL _ (by omega)) (fun y hy => hS _ y (by omega) hy) rfl rfl (vr.2.2 j hj hz)
  · obtain ⟨k1, k2, k3, k4, k5, k6, k7⟩ := kp j hj
    by_cases e : j = c
    · subst e
      rw [gvs, gts, gms, rss]
      refine ⟨k1, k2, k3, k4, ?_, ?_, ?_⟩
      · rcases hv with ⟨w1, w2, -⟩ | ⟨w1, w2, -⟩
        · exact ⟨fun z => absurd z w2, fun z => absurd w1 z⟩
        · exact ⟨fun _ => by rw [w1]; decide, fun _ => w2⟩
      · rcases hv with ⟨w1, w2, w3, -⟩ | ⟨w1, w2, w3, -⟩
        · exact ⟨fun _ => by rw [w1]; decide, fun _ => w3⟩
        · exact ⟨fun z => absurd z w3, fun z => absurd w1 z⟩
      · intro z
        rcases hv with ⟨w1, w2, w3, -⟩ | ⟨w1, w2, w3, w4, w5, w6⟩
        · exact absurd w3 z
        · exact ⟨w5, w6⟩
    · rw [gvn j e, gtn j e, gmn j e, rsn j e]
      refine ⟨k1, k2, k3, k4, k5, k6, fun z => ⟨(k7 z).1, fun k hk => ?_⟩⟩
      have := (hCa j hj).2.2.2.2.2.2.2.2.2.2.2.2.2.2.2.2.2.2.2.2.2.1
      exact ((k7 z).2 k hk).trans (hT j k e (by omega)).symm
  · have hk' : k < (g.1 0 0) := hk
    show _ ∧ VV _ _ _ _ (N _) _
    rw [hN _ (by omega)]
    exact hVa.1 k hk
  · have hj' : j < (g.1 0 1) := hj
    have hi' : i < (g.2.2.2.2.2 8) ((g.2.2.2.2.2 11) j) := hi
    have := (hBk.2.2.2.1 _ (hNo j hj').2).2.1
    show VV _ _ _ _ (N _) _
    rw [hN _ (by omega)]
    exact hVa.2.1 j hj i hi
  · show VV _ _ _ _ (N _) _
    by_cases e : j = c
    · subst e
      rw [gvs] at hz
      rcases hv with ⟨-, -, -, -, -, w⟩ | ⟨-, w, -⟩
      · exact w
      · exact absurd w hz
    · rw [gvn j e] at hz
      rw [hN _ (by omega)]
      exact hVa.2.2 j hj hz
  · obtain ⟨u1, u2, u3, u4, u5, u6, u7, u8, u9, u10, u11, u12, u13, u14, u15, u16, u17, u18, u19, u20, u21, u22, u23⟩ := hCa j hj
    by_cases e : j = c
    · subst e
      rw [rss, rms, gms]
      exact ⟨u1, u2, u3, u4, u5, u6, u7, u8, u9, u10, u11, v3, u13, u14, u15, u16, u17, u18, u19, u20, rfl, hm, u23⟩
    · rw [rsn j e, rmn j e, gmn j e]
      exact ⟨u1, u2, u3, u4, u5, u6, u7, u8, u9, u10, u11, u12, u13, u14, u15, u16, u17, u18, u19, u20, u21, u22, u23⟩
  · obtain ⟨y1, y2, y3, y4, y5, y6⟩ := m5 j hj
    refine ⟨y1, y2, y3, fun i hi hio => ?_, fun z => ?_, fun zl z => ?_⟩
    · obtain ⟨z1, z2, z3, z4⟩ := y4 i hi hio
      refine ⟨z1, z2, fun z => ?_, z4⟩
      have hic : i ≠ c := fun q => by rw [q, rss] at z; exact v0 z
      rw [rsn i hic] at z
      obtain ⟨w1, w2⟩ := z3 z
      refine ⟨fun hjl => ?_, w2⟩
      have hjc : j ≠ c := fun q => hl (by rw [← q]; exact hjl) i hi (by rw [← q]; exact hio) z
      rw [rsn j hjc]
      exact w1 hjl
    · have e : j ≠ c := fun q => by rw [q, rss] at z; exact v0 z
      rw [rsn j e] at z
      exact y5 z
    · have e : j ≠ c := fun q => by rw [q, rss] at z; exact v0 z
      rw [rsn j e] at z
      exact y6 zl z
end
