/-! a call more, of a thing's method: its arguments are copied -/
section
variable {K : Nat → pcell} {tb : Nat} {g g' g1 g2 : gS} {r r' r0 r1 r2 s s' : rS} {x x' x1 x2 xb : xS} {h h' h1 h2 : pheap} {a n k m i j c p q d va ta L A base o mi b u N cm ou : Nat} {Q : Option Value → pheap → Prop} {e : Int32} {av : Nat → Nat} {sr : Nat → Int32}
def cpsR (r : rS) (base q : Nat) : Nat → rS
  | 0 => r
  | k + 1 => cpR (cpsR r base q k) (base + k) (q + k)
theorem clx_cp : CLx (cpR r p q) r := ⟨fun _ _ _ _ _ _ => rfl, rfl, fun a q0 q1 q2 q3 q4 q5 q6 q7 q8 q9 q10 q11 q12 q13 q14 q15 q16 q17 q18 q19 q20 q21 q22 q23 => by unfold cpR; rw [sR_n _ _ q23, sA_a _ _ _ q22]; rfl, fun a ha => upN_n _ _ ha⟩
theorem cl1_cp (hq : ¬ kc q) : Cl1 (cpR r p q) r n := ⟨fun j hj => ⟨rfl, rfl, rfl, rfl, rfl, rfl, rfl, rfl, rfl, rfl, rfl, rfl, rfl, rfl, rfl⟩, fun _ _ _ => ⟨rfl, rfl⟩, fun _ _ => rfl, fun c hc => (sc_cp (r := r) (p := p) hq).2.2.2.2.2.2 c hc⟩
/-- rows that a copy leaves -/
def CO (r' r : rS) : Prop := r'.1 = r.1 ∧ r'.2.1 = r.2.1 ∧ (∀ a, a ≠ 88 → a ≠ 89 → r'.2.2.1 a = r.2.2.1 a) ∧ ∀ a, a ≠ 87 → r'.2.2.2 a = r.2.2.2 a
theorem co_t (p : CO r r1) (q : CO r1 r2) : CO r r2 := ⟨p.1.trans q.1, p.2.1.trans q.2.1, fun a h1 h2 => (p.2.2.1 a h1 h2).trans (q.2.2.1 a h1 h2), fun a h1 => (p.2.2.2 a h1).trans (q.2.2.2 a h1)⟩
theorem co_cp : CO (cpR r p q) r := ⟨rfl, rfl, fun a h1 h2 => by unfold cpR; rw [sR_n _ _ h2, sA_a _ _ _ h1]; rfl, fun a ha => upN_n _ _ ha⟩
/-- a cell is another's -/
def CQ (r' : rS) (q : Nat) (r : rS) (p : Nat) : Prop := (r'.2.2.2 87) q = (r.2.2.2 87) p ∧ (r'.2.2.1 88) q = (r.2.2.1 88) p ∧ ∀ k, k < 16 → (r'.2.2.1 89) (16 * q + k) = (r.2.2.1 89) (16 * p + k)
theorem cq_n (hc : c ≠ q) : CQ (cpR r p q) c r c := ⟨upN_n _ _ hc, upN_n _ _ hc, fun k hk => wrF_o ((r.2.2.1 89)) (fun k => (r.2.2.1 89) (16 * p + k)) (s := 16 * q) (j := 16) (k := 16 * c + k) (by omega)⟩
theorem cq_s : CQ (cpR r p q) q r p := ⟨upN_s _ _ _, upN_s _ _ _, fun k hk => wrF_i ((r.2.2.1 89)) (fun k => (r.2.2.1 89) (16 * p + k)) (s := 16 * q) hk⟩
theorem cq_t (h1 : CQ r a r1 b) (h2 : CQ r1 b r2 c) : CQ r a r2 c := ⟨h1.1.trans h2.1, h1.2.1.trans h2.2.1, fun k hk => (h1.2.2 k hk).trans (h2.2.2 k hk)⟩
theorem cps_ok (hd : base + n ≤ q ∨ q + n ≤ base) : ∀ m, m ≤ n → CO (cpsR r base q m) r ∧ (∀ c, c < q ∨ q + m ≤ c → CQ (cpsR r base q m) c r c) ∧ ∀ k, k < m → CQ (cpsR r base q m) (q + k) r (base + k)
  | 0, hm => ⟨⟨rfl, rfl, fun _ _ _ => rfl, fun _ _ => rfl⟩, fun c hc => ⟨rfl, rfl, fun _ _ => rfl⟩, fun k hk => absurd hk (by omega)⟩
  | m + 1, hm => by
    obtain ⟨y1, y2, y3⟩ := cps_ok hd m (by omega)
    refine ⟨co_t co_cp y1, fun c hc => cq_t (cq_n (by omega)) (y2 c (by omega)), fun k hk => ?_⟩
    by_cases e : k = m
    · subst e
      exact cq_t cq_s (y2 _ (by omega))
    · exact cq_t (cq_n (by omega)) (y3 k (by omega))
theorem clx_cps : ∀ m, CLx (cpsR r base q m) r
  | 0 => ⟨fun _ _ _ _ _ _ => rfl, rfl, fun _ _ _ _ _ _ _ _ _ _ _ _ _ _ _ _ _ _ _ _ _ _ _ _ _ => rfl, fun _ _ => rfl⟩
  | m + 1 => clx_t clx_cp (clx_cps m)
theorem cl1_r : Cl1 r r n := ⟨fun _ _ => ⟨rfl, rfl, rfl, rfl, rfl, rfl, rfl, rfl, rfl, rfl, rfl, rfl, rfl, rfl, rfl⟩, fun _ _ _ => ⟨rfl, rfl⟩, fun _ _ => rfl, fun _ _ => ⟨rfl, rfl, fun _ _ => rfl⟩⟩
theorem cl1_cps (hq : 363 ≤ q ∧ q + n ≤ 543) : ∀ m, m ≤ n → Cl1 (cpsR r base q m) r N
  | 0, _ => cl1_r
  | m + 1, hm => cl1_t (cl1_cp (fun z => by rcases z with z | z <;> omega)) (cl1_cps hq m (by omega))
theorem cl2_co {time : Int32} {ca sv ob rz : Nat} (h : CO r' r) (h2 : Cl2 r time n ca sv ob cm ou rz) : Cl2 r' time n ca sv ob cm ou rz := by
  obtain ⟨a1, -, a2, -⟩ := h
  unfold Cl2
  rw [a1, a2 _ (by decide) (by decide), a2 _ (by decide) (by decide), a2 _ (by decide) (by decide), a2 _ (by decide) (by decide), a2 _ (by decide) (by decide), a2 _ (by decide) (by decide), a2 _ (by decide) (by decide), a2 _ (by decide) (by decide), a2 _ (by decide) (by decide), a2 _ (by decide) (by decide), a2 _ (by decide) (by decide), a2 _ (by decide) (by decide), a2 _ (by decide) (by decide), a2 _ (by decide) (by decide), a2 _ (by decide) (by decide)]
  exact h2
/-- what a new call leaves as it was -/
def NF (g' g : gS) (h' h : pheap) (N o cm ou ca sv : Nat) : Prop := (g'.1 0 5) = N + 1 ∧ (g'.1 6) N = h.1 ∧ (∀ j, j ≠ N → (g'.1 6) j = (g.1 6) j) ∧ (∀ a, a ≠ 0 → a ≠ 6 → g'.1 a = g.1 a) ∧ (∀ k, k ≠ 5 → g'.1 0 k = g.1 0 k) ∧ (∀ b, b < h.1 → (g.2.2.2.1 b).1 ≠ 4 → g'.2.2.2.1 b = g.2.2.2.1 b ∧ g'.2.1 b = g.2.1 b ∧ g'.2.2.1 b = g.2.2.1 b) ∧ g'.2.2.2.2.1 = g.2.2.2.2.1 ∧ (∀ a, a ≠ 14 → a ≠ 15 → a ≠ 17 → a ≠ 16 → a ≠ 18 → a ≠ 19 → a ≠ 20 → a ≠ 21 → a ≠ 22 → a ≠ 33 → a ≠ 34 → a ≠ 32 → a ≠ 31 → a ≠ 30 → g'.2.2.2.2.2 a = g.2.2.2.2.2 a) ∧ ((g'.2.2.2.2.2 14) N = ca ∧ (g'.2.2.2.2.2 15) N = sv ∧ (g'.2.2.2.2.2 17) N = o + 1 ∧ (g'.2.2.2.2.2 16) N = cm ∧ (g'.2.2.2.2.2 18) N = ou) ∧ (∀ j, j ≠ N → (g'.2.2.2.2.2 14) j = (g.2.2.2.2.2 14) j ∧ (g'.2.2.2.2.2 15) j = (g.2.2.2.2.2 15) j ∧ (g'.2.2.2.2.2 17) j = (g.2.2.2.2.2 17) j ∧ (g'.2.2.2.2.2 16) j = (g.2.2.2.2.2 16) j ∧ (g'.2.2.2.2.2 18) j = (g.2.2.2.2.2 18) j ∧ (g'.2.2.2.2.2 34) j = (g.2.2.2.2.2 34) j) ∧ (∀ b, b < h.1 → (g.2.2.2.1 b).1 ≠ 4 → h'.2.2 b = h.2.2 b)
def HX (r : rS) (g : gS) (ca o cm ou : Nat) : Prop := ou ≠ 0 → ca = (g.2.2.2.2.2 15) (ou - 1) ∧ ((g.2.2.2.2.2 14) (ou - 1) = (g.2.2.2.2.2 15) (ou - 1) → (r.2.2.1 118) (ou - 1) = 0) ∧ ((g.2.2.2.2.2 14) (ou - 1) ≠ (g.2.2.2.2.2 15) (ou - 1) → (g.2.2.2.2.2 34) (ou - 1) = 0 ∧ ((r.2.2.1 125) (ou - 1) = 1 ∨ (r.2.2.1 123) (240 * (ou - 1) + 2) ≠ (r.2.2.1 93) ((g.2.2.2.2.2 15) (ou - 1)))) ∧ (∀ i, i < (g.1 0 5) → (g.2.2.2.2.2 18) i ≠ ou) ∧ (g.2.2.2.2.2 17) (ou - 1) ≠ 0 ∧ (r.2.2.1 84) (8 * (g.2.2.2.2.2 13) o + cm) = (r.2.2.1 84) (8 * (g.2.2.2.2.2 13) ((g.2.2.2.2.2 17) (ou - 1) - 1) + (g.2.2.2.2.2 16) (ou - 1))
theorem new_local (hw : World K tb g r x h) (hn : (g.1 0 5) < 60) (ho : o < (g.1 0 4)) (hcm : cm < (g.2.2.2.2.2 9) ((g.2.2.2.2.2 13) o)) (hou : ou ≤ (g.1 0 5)) (hcx : CLx r' r) (h1 : Cl1 r' r (g.1 0 5)) (h2 : Cl2 r' ((r.1 75)) (g.1 0 5) ((g.2.2.2.2.2 12) o) ((g.2.2.2.2.2 12) o) (o + 1) cm ou 0) (hmv : (r'.2.2.1 130) (g.1 0 5) = 0) (hout : HX r g ((g.2.2.2.2.2 12) o) o cm ou) : ∃ g' x' h', World K tb g' r' x' h' ∧ NF g' g h' h (g.1 0 5) o cm ou ((g.2.2.2.2.2 12) o) ((g.2.2.2.2.2 12) o) ∧ h.1 ≤ h'.1 ∧ h'.1 ≤ h.1 + 2 ∧ h'.2.1 ≤ h.2.1 + 117 ∧ (∀ k, k ≠ 6 → x'.2 k = x.2 k) ∧ (∀ d r0 Q, Go (d + 8) 96 0 [.ref 5, .ref ((g.1 4) ((g.2.2.2.2.2 12) o)), .ref ((g.1 4) ((g.2.2.2.2.2 12) o)), .ref ((g.1 5) o), .int (nI cm), pv (if ou = 0 then 0 else (g.1 6) (ou - 1)), mk0] [] (putR r0 (putX x h)) Q = Q (some (.ref h.1)) (putR r0 (putX x' h'))) := by
  have hh := sim_146 hw.1
  obtain ⟨u1, u2, u3, u4, -⟩ := w_obj hw o ho
  obtain ⟨t1, t2, -⟩ := s_thg hw.1 ho
  have hth : (g.1 5) o ≠ 0 := by omega
  obtain ⟨g1, x1, h3, hg, hadd⟩ := x_addCall hw hn (ca := (g.1 4) ((g.2.2.2.2.2 12) o)) (sv := (g.1 4) ((g.2.2.2.2.2 12) o)) (th := (g.1 5) o) (cm := cm) (ou := if ou = 0 then 0 else (g.1 6) (ou - 1))
  obtain ⟨m1, m2, m3⟩ := mkC_ok (n := (g.1 0 5)) (ca := (g.1 4) ((g.2.2.2.2.2 12) o)) (sv := (g.1 4) ((g.2.2.2.2.2 12) o)) (cm := cm) (ou := if ou = 0 then 0 else (g.1 6) (ou - 1)) (th := (g.1 5) o) (bo := (r.1 75)) hw.1
  have hw1 := w_grw hw hg
  obtain ⟨-, e2, e3, e4, e5, e6, e7, e8, e9, e10, e11, e12, e13, e14⟩ := hg
  rw [mkC_1] at e6 e11 e12 e13
  rw [mkC_u] at e14
  have t0 := sim_top hw.1 (Nat.le_refl h.1)
  have hro1 : g1.2.2.2.1 h.1 = (0, 0) := by
    rw [e6 h.1 (by omega) (by rw [t0]; exact fun z => by cases z)]
    exact t0
  have hw2 := w_scr hw1 (a := 24) (k := 0) (Or.inr (Or.inr (Or.inr ⟨by omega, by omega, rfl⟩))) (x.1 24 0 + 1)
  have hcel := e11 h.1 (by omega)
  have hel4 : g1.2.2.2.1 (x1.2 6) = (4, 6) := (hw1.1.2.1.1 _ _ (ref_el (g := g1) (x2 := x1.2) (q := 6) (by decide) (by decide) (by omega))).2.2
  have hel : x1.2 6 ≠ h.1 := fun z => by
    rw [z, hro1] at hel4
    cases hel4
  have hr4 : ∀ b, b < h.1 → (g.2.2.2.1 b).1 ≠ 4 → g1.2.2.2.1 b = g.2.2.2.1 b ∧ b ≠ x1.2 6 := fun b hb h4 => by
    have := e6 b (by omega) (fun z => h4 (by rw [z]))
    refine ⟨this, fun z => ?_⟩
    rw [z, hel4] at this
    rw [z, ← this] at h4
    exact h4 rfl
  have hca2 : cCal (g.1 0 5) ((g1.1 4) ((g.2.2.2.2.2 12) o)) ((g1.1 4) ((g.2.2.2.2.2 12) o)) (if o + 1 = 0 then 0 else (g1.1 5) (o + 1 - 1)) cm (if ou = 0 then 0 else (g1.1 6) (ou - 1)) ((r.1 75)) 0 0 0 (if (r'.2.2.1 130) (g.1 0 5) = 0 then 0 else (r'.2.2.1 129) (g.1 0 5)) 0 0 0 0 0 0 (h3.2.2 h.1) := by
    rw [hcel, hmv, if_pos rfl, if_neg (by omega), e2]
    exact m2
  have hfin := w_call (a := h.1) (b := 0) (n := (g.1 0 5)) (ca := (g.2.2.2.2.2 12) o) (sv := (g.2.2.2.2.2 12) o) (ob := o + 1) (cm := cm) (ou := ou) (rz := 0) hw2 (by rw [e2]) hn e9 e10 hh (by omega) hro1 hcx h1 h2 (Or.inl hmv) (by rw [e2]; exact u2) (by rw [e2]; exact u2) ⟨by rw [e2]; omega, fun z => by omega, fun _ => by rw [e5]; exact ⟨hcm, rfl⟩⟩ hou (fun _ => ⟨rfl, rfl⟩) (fun z => absurd rfl z) (fun z => by
    obtain ⟨y1, y2, y3, y4, y5, y6⟩ := hout z
    rw [e5]
    exact ⟨y1, y2, y3, y4, by omega, y5, y6⟩) hca2
  refine ⟨_, _, _, hfin, ⟨rfl, clG_caln, fun j hj => (clG_cal hj).trans (by rw [e2]), fun a a1 a2 => ?_, fun k hk => ?_, fun b b1 b2 => ⟨(clG_ro (by omega)).trans (hr4 b b1 b2).1, ?_, ?_⟩, ?_, fun a q0 q1 q2 q3 q4 q5 q6 q7 q8 q9 q10 q11 q12 q13 => ?_, ⟨clG_can, clG_svn, clG_obn, clG_cmn, clG_oun⟩, fun j hj => ⟨(clG_ca hj).trans (by rw [e5]), (clG_sv hj).trans (by rw [e5]), (clG_ob hj).trans (by rw [e5]), (clG_cm hj).trans (by rw [e5]), (clG_ou hj).trans (by rw [e5]), (clG_az hj).trans (by rw [e5])⟩, fun b b1 b2 => ?_⟩, ?_, ?_, ?_, fun k hk => e8 k hk, fun d r0 Q => ?_⟩
  · show upN (upN g1.1 0 _) 6 _ a = _
    rw [upN_n _ _ a2, upN_n _ _ a1, e2]
  · show upN (g1.1 0) 5 ((g.1 0 5) + 1) k = _
    rw [upN_n _ _ hk, e2]
  · show g1.2.1 b = _
    rw [e3]
  · show g1.2.2.1 b = _
    rw [e4]
  · show g1.2.2.2.2.1 = _
    rw [e5]
  · show (upN (upN (upN (upN (upN (upN (upN (upN (upN (upN (upN (upN (upN (upN (g1.2.2.2.2.2) 14 _) 15 _) 17 _) 16 _) 18 _) 19 _) 20 _) 21 _) 22 _) 33 _) 34 _) 32 _) 31 _) 30 _) a = _
    rw [upN_n _ _ q13, upN_n _ _ q12, upN_n _ _ q11, upN_n _ _ q10, upN_n _ _ q9, upN_n _ _ q8, upN_n _ _ q7, upN_n _ _ q6, upN_n _ _ q5, upN_n _ _ q4, upN_n _ _ q3, upN_n _ _ q2, upN_n _ _ q1, upN_n _ _ q0, e5]
  · show (hset h3 (x1.2 6) (g.1 0 5) (.ref h.1)).2.2 b = _
    rw [hs_o _ _ (hr4 b b1 b2).2, e11 b (by omega), m3 b b1]
  · rw [hs_1]; omega
  · rw [hs_1]; omega
  · rw [hs_u]; omega
  · have := hadd d r0 Q
    rw [pv_n hth] at this
    exact this
/-- arguments, once there is a call more -/
theorem args_nf {cs : Nat} (hw : World K tb g r x h) (hA : Args K g r h A n base av sr) (hA0 : g.2.2.2.1 A = (0, 0)) (hf : NF g' g h' h N o cm ou cs u) (hle : h.1 ≤ h'.1) (hq : q + n ≤ 790) (hcp : ∀ k, k < n → CQ r' (q + k) r (base + k)) : Args K g' r' h' A n q av sr ∧ g'.2.2.2.1 A = (0, 0) := by
  obtain ⟨f1, f2, f3, f4, f5, f6, f7, f8, f9, f10, f11⟩ := hf
  obtain ⟨⟨a1, a2, a3, a4, a5, a6⟩, a7⟩ := hA
  have hcA := f11 A a2 (by rw [hA0]; decide)
  refine ⟨⟨⟨a1, by omega, by rw [hcA]; exact a3, by rw [hcA]; exact a4, a5, hq⟩, fun k hk => ?_⟩, (f6 A a2 (by rw [hA0]; decide)).1.trans hA0⟩
  obtain ⟨y1, ⟨y2, y3, y4⟩, y5, y6, y7⟩ := a7 k hk
  obtain ⟨c1, c2, c3⟩ := f6 (av k) y3 (by rw [y4]; decide)
  obtain ⟨p1, p2, p3⟩ := hcp k hk
  have gnr := f8 11 (by decide) (by decide) (by decide) (by decide) (by decide) (by decide) (by decide) (by decide) (by decide) (by decide) (by decide) (by decide) (by decide) (by decide)
  have gos := f8 13 (by decide) (by decide) (by decide) (by decide) (by decide) (by decide) (by decide) (by decide) (by decide) (by decide) (by decide) (by decide) (by decide) (by decide)
  refine ⟨by rw [hcA]; exact y1, ⟨y2, by omega, c1.trans y4⟩, by rw [f7]; exact y5, ?_, ?_⟩
  · have har : g'.2.2.1 (g.2.1 (av k)).2.2 = g.2.2.1 (g.2.1 (av k)).2.2 := by
      by_cases z : (g.2.1 (av k)).2.2 = 0
      · rw [z]
        have hh := sim_146 hw.1
        exact (f6 0 (by omega) (by rw [sim_low hw.1 (by omega)]; decide)).2.2
      · obtain ⟨o1, o2, o3⟩ := hw.1.2.1.2.1 (av k) (by rw [y4]) z
        exact (f6 _ o2 (by rw [o3]; decide)).2.2
    exact VR_c (g := g) rfl rfl (fun _ _ => rfl) c2 har (VR_mv p1 p2 p3 y6)
  · rw [p1, f5 1 (by decide), f5 4 (by decide), gnr, gos]
    exact y7
end
