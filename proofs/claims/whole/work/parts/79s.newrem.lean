section
variable {K : Nat → pcell} {tb : Nat} {g g' g1 g2 : gS} {r r' r0 r1 r2 s s' : rS} {x x' x1 x2 xb : xS} {h h' h1 h2 : pheap} {a n k m i j c p q d va ta L A base o mi b u N cm ou M : Nat} {Q : Option Value → pheap → Prop} {e : Int32} {av : Nat → Nat} {sr : Nat → Int32} {ml : Nat → Nat}
/-- a call more, to another desk: its request lies in the writer -/
theorem new_remote (hw : World K tb g r x h) (hn : (g.1 0 5) < 60) (ho : o < (g.1 0 4)) (hcm : cm < (g.2.2.2.2.2 9) ((g.2.2.2.2.2 13) o)) (hi : i < (g.1 0 3)) (hne : i ≠ (g.2.2.2.2.2 12) o) (hou : ou ≤ (g.1 0 5)) (hq : Wq g x r L M ml) (hL : 3 ≤ L) (hcx : CLx r' r) (h1 : Cl1 r' r (g.1 0 5)) (h2 : Cl2 r' ((r.1 75)) (g.1 0 5) i ((g.2.2.2.2.2 12) o) (o + 1) cm ou L) (hmv : (r'.2.2.1 130) (g.1 0 5) = 0) (hout : HX r g i o cm ou) (hrq : ∀ k, k < L → (r'.2.2.1 123) (240 * (g.1 0 5) + k) = (r.2.2.1 134) k) (hm0 : (r.2.2.1 134) 0 = nI o) (hm1 : (r.2.2.1 134) 1 = nI cm) (hm2 : ∃ a b, a ≤ b ∧ b ≤ 200 ∧ (r.2.2.1 134) 2 = nI a ∧ (r.2.2.1 93) ((g.2.2.2.2.2 12) o) = nI b) (hp : PrsOK g ((r.2.2.1 80)) ((r.2.2.1 134)) 3 0 ml L M ml ((List.range ((g.2.2.2.2.2 10) (8 * (g.2.2.2.2.2 13) o + cm))).map (fun a => (r.2.2.1 86) (3 * (8 * (g.2.2.2.2.2 13) o + cm) + a)))) : ∃ g' x' hA, World K tb g' r' x' (hset (hnew hA 22 L (bytF x' L)) h.1 11 (.ref hA.1)) ∧ NF g' g (hset (hnew hA 22 L (bytF x' L)) h.1 11 (.ref hA.1)) h (g.1 0 5) o cm ou i ((g.2.2.2.2.2 12) o) ∧ h.1 < hA.1 ∧ hA.1 ≤ h.1 + 2 ∧ hA.2.1 ≤ h.2.1 + 117 ∧ (hA.2.2 h.1).1 = 3 ∧ (∀ k, k ≠ 6 → x'.2 k = x.2 k) ∧ (∀ a k, a ≠ 24 → x'.1 a k = x.1 a k) ∧ (∀ b, b < h.1 → (g.2.2.2.1 b).1 ≠ 4 ∨ g.2.2.2.1 b = (4, 1) → hA.2.2 b = h.2.2 b) ∧ (∀ d r0 Q, Go (d + 8) 96 0 [.ref 5, .ref ((g.1 4) i), .ref ((g.1 4) ((g.2.2.2.2.2 12) o)), .ref ((g.1 5) o), .int (nI cm), pv (if ou = 0 then 0 else (g.1 6) (ou - 1)), mk0] [] (putR r0 (putX x h)) Q = Q (some (.ref h.1)) (putR r0 (putX x' hA))) ∧ (∀ d r0 Q, Go (d + 1) 98 0 [.ref 70] [] (putR r0 (putX x' hA)) Q = Q (some (.ref hA.1)) (putR r0 (putX x' (hnew hA 22 L (bytF x' L))))) := by
  have hh := sim_146 hw.1
  obtain ⟨u1, u2, u3, u4, -⟩ := w_obj hw o ho
  obtain ⟨t1, t2, -⟩ := s_thg hw.1 ho
  have hth : (g.1 5) o ≠ 0 := by omega
  obtain ⟨wq0, wq1, wq2, wq3, wq4, wq5, -⟩ := hq
  obtain ⟨g1, x1, h3, hg, hadd⟩ := x_addCall hw hn (ca := (g.1 4) i) (sv := (g.1 4) ((g.2.2.2.2.2 12) o)) (th := (g.1 5) o) (cm := cm) (ou := if ou = 0 then 0 else (g.1 6) (ou - 1))
  obtain ⟨m1, m2, m3⟩ := mkC_ok (n := (g.1 0 5)) (ca := (g.1 4) i) (sv := (g.1 4) ((g.2.2.2.2.2 12) o)) (cm := cm) (ou := if ou = 0 then 0 else (g.1 6) (ou - 1)) (th := (g.1 5) o) (bo := (r.1 75)) hw.1
  have hw1 := w_grw hw hg
  have hg' := hg
  obtain ⟨-, e2, e3, e4, e5, e6, e7, e8, e9, e10, e11, e12, e13, e14⟩ := hg'
  rw [mkC_1] at e6 e11 e12 e13
  rw [mkC_u] at e14
  have t0 := sim_top hw.1 (Nat.le_refl h.1)
  have hro1 : g1.2.2.2.1 h.1 = (0, 0) := by
    rw [e6 h.1 (by omega) (by rw [t0]; exact fun z => by cases z)]
    exact t0
  have hcel := e11 h.1 (by omega)
  have hel0 := hw1.1.2.1.1 _ _ (ref_el (g := g1) (x2 := x1.2) (q := 6) (by decide) (by decide) (by omega))
  have hel4 : g1.2.2.2.1 (x1.2 6) = (4, 6) := hel0.2.2
  have hel5 : x1.2 6 < h3.1 := hel0.2.1
  have hel : x1.2 6 ≠ h.1 := fun z => by
    rw [z, hro1] at hel4
    cases hel4
  have hr4 : ∀ b, b < h.1 → (g.2.2.2.1 b).1 ≠ 4 ∨ g.2.2.2.1 b = (4, 1) → g1.2.2.2.1 b = g.2.2.2.1 b ∧ b ≠ x1.2 6 := fun b hb h4 => by
    have hne : g.2.2.2.1 b ≠ (4, 6) := fun z => by
      rcases h4 with h4 | h4
      · exact h4 (by rw [z])
      · rw [h4] at z
        cases z
    have := e6 b (by omega) hne
    refine ⟨this, fun z => ?_⟩
    rw [z, hel4] at this
    rw [z, ← this] at hne
    exact hne rfl
  have hx1 : ∀ a k, a ≠ 24 → (tI (tI x1 24 0 (x.1 24 0 + 1)) 24 2 (nI ((g.1 0 5) + 1))).1 a k = x.1 a k := fun a k ha => by
    rw [tI_ne _ _ (by omega), tI_ne _ _ (by omega), e7]
  have hid : hset (hset h3 (x1.2 6) (g.1 0 5) (.ref h.1)) h.1 10 (.int 0) = hset h3 (x1.2 6) (g.1 0 5) (.ref h.1) := hs_id (by
    rw [hs_o _ _ (Ne.symm hel), hcel]
    exact m2.2.2.2.2.2.2.2.2.2.2.2.1)
  have hW := mk_remote (n := (g.1 0 5)) (ca := i) (sv := (g.2.2.2.2.2 12) o) (ob := o + 1) (cm := cm) (ou := ou) (th := (g.1 5) o) (oa := if ou = 0 then 0 else (g.1 6) (ou - 1)) (L := L) (XW := tI (tI x1 24 0 (x.1 24 0 + 1)) 24 2 (nI ((g.1 0 5) + 1))) (B := (r.2.2.1 134)) (mv := 0) (r' := r') hw rfl hn (by rw [if_neg (by omega)]; rfl) rfl hg ⟨rfl, fun _ _ _ => rfl⟩ wq4 (fun k hk => ⟨(wq5 k hk).1, by rw [hx1 71 k (by decide)]; exact (wq5 k hk).2⟩) hcx h1 h2 hrq (Or.inl hmv) (by rw [hmv, if_pos rfl]) hi u2 hne ⟨by omega, fun z => by omega, fun _ => ⟨hcm, rfl⟩⟩ hou ⟨hL, fun k hk => by rw [hrq k hk]; exact (wq5 k hk).1, by rw [hrq 1 (by omega)]; exact hm1, by rw [hrq 2 (by omega)]; exact hm2, fun z => by omega, fun _ => ⟨by
      have := hrq 0 (by omega)
      rw [Nat.add_zero] at this
      rw [this]; exact hm0, by
      obtain ⟨n', hn'⟩ := hp (fun k => (r'.2.2.1 123) (240 * (g.1 0 5) + k)) (fun k _ hk => hrq k hk) [] 1 (L, rl ((g.2.2.2.2.2 11)) ml M) rfl
      rw [List.append_nil] at hn'
      exact ⟨n', _, hn'⟩⟩⟩ (fun z => by
    obtain ⟨y1, y2, y3, y4, y5, y6⟩ := hout z
    exact ⟨y1, y2, y3, y4, by omega, y5, y6⟩)
  rw [hid] at hW
  have hA1 : (hset h3 (x1.2 6) (g.1 0 5) (.ref h.1)).1 = h3.1 := rfl
  have hA2 : (hset h3 (x1.2 6) (g.1 0 5) (.ref h.1)).2.1 = h3.2.1 := rfl
  have hcA : ∀ b, b < h.1 → (g.2.2.2.1 b).1 ≠ 4 ∨ g.2.2.2.1 b = (4, 1) → (hset h3 (x1.2 6) (g.1 0 5) (.ref h.1)).2.2 b = h.2.2 b := fun b b1 b2 => by
    rw [hs_o _ _ (hr4 b b1 b2).2, e11 b (by omega), m3 b b1]
  refine ⟨_, _, _, hW, ⟨rfl, clG_caln, fun j hj => (clG_cal hj).trans (by show (g1.1 6) j = _; rw [e2]), fun a a1 a2 => ?_, fun k hk => ?_, fun b b1 b2 => ⟨((clG_ro (by omega)).trans (gP_rn (by omega))).trans (hr4 b b1 (Or.inl b2)).1, ?_, ?_⟩, ?_, fun a q0 q1 q2 q3 q4 q5 q6 q7 q8 q9 q10 q11 q12 q13 => ?_, ⟨clG_can, clG_svn, clG_obn, clG_cmn, clG_oun⟩, fun j hj => ⟨(clG_ca hj).trans (by show (g1.2.2.2.2.2 14) j = _; rw [e5]), (clG_sv hj).trans (by show (g1.2.2.2.2.2 15) j = _; rw [e5]), (clG_ob hj).trans (by show (g1.2.2.2.2.2 17) j = _; rw [e5]), (clG_cm hj).trans (by show (g1.2.2.2.2.2 16) j = _; rw [e5]), (clG_ou hj).trans (by show (g1.2.2.2.2.2 18) j = _; rw [e5]), (clG_az hj).trans (by show (g1.2.2.2.2.2 34) j = _; rw [e5])⟩, fun b b1 b2 => ?_⟩, by omega, by omega, by omega, ?_, fun k hk => e8 k hk, hx1, hcA, fun d r0 Q => ?_, fun d r0 Q => ?_⟩
  · show upN (upN g1.1 0 _) 6 _ a = _
    rw [upN_n _ _ a2, upN_n _ _ a1, e2]
  · show upN (g1.1 0) 5 ((g.1 0 5) + 1) k = _
    rw [upN_n _ _ hk, e2]
  · show (gP g1 h3.1 2 (0, 0, 0) (L, fun k => (tI (tI x1 24 0 (x.1 24 0 + 1)) 24 2 (nI ((g.1 0 5) + 1))).1 71 k)).2.1 b = _
    rw [gP_vn (by omega), e3]
  · show (gP g1 h3.1 2 (0, 0, 0) (L, fun k => (tI (tI x1 24 0 (x.1 24 0 + 1)) 24 2 (nI ((g.1 0 5) + 1))).1 71 k)).2.2.1 b = _
    rw [gP_an (by omega), e4]
  · show g1.2.2.2.2.1 = _
    rw [e5]
  · show (upN (upN (upN (upN (upN (upN (upN (upN (upN (upN (upN (upN (upN (upN (g1.2.2.2.2.2) 14 _) 15 _) 17 _) 16 _) 18 _) 19 _) 20 _) 21 _) 22 _) 33 _) 34 _) 32 _) 31 _) 30 _) a = _
    rw [upN_n _ _ q13, upN_n _ _ q12, upN_n _ _ q11, upN_n _ _ q10, upN_n _ _ q9, upN_n _ _ q8, upN_n _ _ q7, upN_n _ _ q6, upN_n _ _ q5, upN_n _ _ q4, upN_n _ _ q3, upN_n _ _ q2, upN_n _ _ q1, upN_n _ _ q0, e5]
  · rw [hs_o _ _ (by omega), hn_o _ _ _ (by rw [hA1]; omega)]
    exact hcA b b1 (Or.inl b2)
  · rw [hs_o _ _ (Ne.symm hel), hcel]
    exact m2.1
  · have := hadd d r0 Q
    rw [pv_n hth] at this
    exact this
  · exact x_written (by rw [hA1]; omega) (by rw [hx1 70 1 (by decide)]; exact wq2) wq4
end
