/-! carry -/
theorem b2_q : ∀ q, q < 1001 → bN (nI q).toInt64 2 0 = nI (q / 256) ∧ bN (nI q).toInt64 2 1 = nI (q % 256) := by decide +kernel
section
variable {K : Nat → pcell} {tb : Nat} {g g' g0 g1 g2 : gS} {r r' r0 r1 r2 r3 s' : rS} {x x' x1 x2 xb : xS} {h h' h1 : pheap} {d : Nat} {Q : Option Value → pheap → Prop} {a n k m i j b c ca sv ob cm ou rz L q s ag th oa : Nat}
/-- the class's writer, the reference's message: a carry -/
def cwX (x : xS) (k ag q : Nat) : xS := wrX (wrX (wrX (wrX (tI (tI (tI x 70 0 0) 70 1 0) 70 2 0) 0 (bN (nI 250).toInt64 1) 1) (0 + 1) (bN (nI k).toInt64 1) 1) (0 + 1 + 1) (bN (nI ag).toInt64 1) 1) (0 + 1 + 1 + 1) (bN (nI q).toInt64 2) 2
def cwR (r : rS) (k ag q : Nat) : rS := msR (msR (msR (msR (sI (sI (sI r 81 0) 82 0) 84 0) 0 (bN (nI 250).toInt64 1) 1) (0 + 1) (bN (nI k).toInt64 1) 1) (0 + 1 + 1) (bN (nI ag).toInt64 1) 1) (0 + 1 + 1 + 1) (bN (nI q).toInt64 2) 2
theorem cw_ok (hk : k < 4) (hag : ag ≤ 200) (hq : q ≤ 1000) : Wq g (cwX x k ag q) (cwR r k ag q) 5 0 (fun _ => 0) ∧ (cwR r k ag q).2.2.1 134 0 = 250 ∧ (cwR r k ag q).2.2.1 134 1 = nI k ∧ (cwR r k ag q).2.2.1 134 2 = nI ag ∧ (cwR r k ag q).2.2.1 134 3 = nI (q / 256) ∧ (cwR r k ag q).2.2.1 134 4 = nI (q % 256) ∧ XM (cwX x k ag q) x ∧ RM (cwR r k ag q) r ∧ (∀ d r0 (h : pheap) Q, 146 ≤ h.1 → Go (d + 1) 91 0 [.ref 70] [] (putR r0 (putX x h)) (fun _ H1 => Go (d + 1) 92 0 [.ref 70, .long 250, mk0, .int 1, mk0] [] H1 (fun _ H2 => Go (d + 1) 92 0 [.ref 70, .long (nI k).toInt64, mk0, .int 1, mk0] [] H2 (fun _ H3 => Go (d + 1) 92 0 [.ref 70, .long (nI ag).toInt64, mk0, .int 1, mk0] [] H3 (fun _ H4 => Go (d + 1) 92 0 [.ref 70, .long (nI q).toInt64, mk0, .int 2, mk0] [] H4 Q)))) = Q none (putR r0 (putX (cwX x k ag q) h))) := by
  obtain ⟨y1, y2, y3⟩ := wq_1 (wq_0 (g := g) (x := x) (r := r) (ml := fun _ => 0)) (n := 250) (by omega) (by omega)
  obtain ⟨y4, y5, y6⟩ := wq_1 y1 (n := k) (by omega) (by omega)
  obtain ⟨y7, y8, y9⟩ := wq_1 y4 (n := ag) (by omega) (by omega)
  have y10 := wq_put y7 (n := 2) (f := bN (nI q).toInt64 2) (by omega) (fun _ _ => bN_B)
  obtain ⟨b0, b1⟩ := b2_q q (by omega)
  refine ⟨y10, ?_, ?_, ?_, ?_, ?_, xm_t xm_wr (xm_t xm_wr (xm_t xm_wr (xm_t xm_wr xm_b))), rm_t rm_ms (rm_t rm_ms (rm_t rm_ms (rm_t rm_ms rm_b))), fun d r0 h Q hh => ?_⟩
  · unfold cwR
    rw [ms_msg (by omega), y9 0 (by omega), y6 0 (by omega)]
    exact y2
  · unfold cwR
    rw [ms_msg (by omega), y9 1 (by omega)]
    exact y5
  · unfold cwR
    rw [ms_msg (by omega)]
    exact y8
  · unfold cwR
    rw [show (3 : Nat) = 0 + 1 + 1 + 1 + 0 from rfl, ms_new (by omega)]
    exact b0
  · unfold cwR
    rw [show (4 : Nat) = 0 + 1 + 1 + 1 + 1 from rfl, ms_new (by omega)]
    exact b1
  · have e1 := fun Q => x_put1 (d := d) (r0 := r0) (h := h) (Q := Q) (v := (nI 250).toInt64) hh (wq_0 (g := g) (x := x) (r := r) (ml := fun _ => 0)).2.2.1 (by omega)
    have e1' : ∀ Q, Go (d + 1) 92 0 [.ref 70, .long 250, mk0, .int 1, mk0] [] (putR r0 (putX (tI (tI (tI x 70 0 0) 70 1 0) 70 2 0) h)) Q = Q none (putR r0 (putX (wrX (tI (tI (tI x 70 0 0) 70 1 0) 70 2 0) 0 (bN (nI 250).toInt64 1) 1) h)) := e1
    rw [x_begin hh, e1', x_put1 hh y1.2.2.1 (by omega), x_put1 hh y4.2.2.1 (by omega)]
    exact x_putN (n := 2) hh y7.2.2.1 (by omega) (by omega)
theorem r_cw (hh : 146 ≤ h.1) (hk : k < 4) (hag : ag ≤ 200) (hq : q ≤ 1000) : Go (d + 1) 224 0 [.ref 73] [] (putR r h) (fun _ H1 => Go (d + 1) 225 0 [.ref 73, .int 250] [] H1 (fun _ H2 => Go (d + 1) 225 0 [.ref 73, .int (nI k)] [] H2 (fun _ H3 => Go (d + 1) 225 0 [.ref 73, .int (nI ag)] [] H3 (fun _ H4 => Go (d + 2) 228 0 [.ref 73, .long (nI q).toInt64, mk0, .int 2, mk0] [] H4 Q)))) = Q none (putR (cwR r k ag q) h) := by
  obtain ⟨y1, y2, y3⟩ := wq_1 (wq_0 (g := (fun _ _ => 0, fun _ => (0, 0, 0), fun _ => (0, fun _ => 0), fun _ => (0, 0), fun _ => 0, fun _ _ => 0)) (x := (fun _ _ => 0, fun _ => 0)) (r := r) (ml := fun _ => 0)) (n := 250) (by omega) (by omega)
  obtain ⟨y4, y5, y6⟩ := wq_1 y1 (n := k) (by omega) (by omega)
  obtain ⟨y7, y8, y9⟩ := wq_1 y4 (n := ag) (by omega) (by omega)
  rw [r_begin hh, r_oct1 (c := 250) (v := (nI 250).toInt64) hh (il_32 (nI 250)).symm (L := 0) rfl (by omega), r_oct1 (v := (nI k).toInt64) hh (il_32 _).symm y1.2.2.2.1 (by omega), r_oct1 (v := (nI ag).toInt64) hh (il_32 _).symm y4.2.2.2.1 (by omega)]
  exact r_octs (n := 2) hh y7.2.2.2.1 (by omega) (by omega)
theorem hs_id {v : Value} (hv : (h.2.2 a).2.2 k = v) : hset h a k v = h := ph_ext rfl rfl (fun c => by
  by_cases e : c = a
  · subst e
    rw [hs_s]
    refine Prod.ext rfl (Prod.ext rfl (funext fun j => ?_))
    show updV _ k v j = _
    by_cases e2 : j = k
    · subst e2
      rw [uv_s, hv]
    · rw [uv_o _ _ e2]
  · rw [hs_o _ _ e])
theorem mk_remote (hw : World K tb g r x h) (hn : n = (g.1 0 5)) (hn60 : n < 60) (hth : th = if ob = 0 then 0 else (g.1 5) (ob - 1)) (hoa : oa = if ou = 0 then 0 else (g.1 6) (ou - 1)) {x1 : xS} {h2 : pheap} (hg : Grw K g r x (mkC h n ((g.1 4) ca) ((g.1 4) sv) th cm oa ((r.1 75))) 6 g1 x1 h2) {XW : xS} {mc : Int32} (hX : XM XW (tI (tI x1 24 0 mc) 24 2 (nI (n + 1)))) (hL2 : L ≤ 240) {B : Nat → Int32} (hB : ∀ k, k < L → isB (B k) ∧ XW.1 71 k = sb (B k)) (hcx : CLx r' r) (h1 : Cl1 r' r n) (h2' : Cl2 r' ((r.1 75)) n ca sv ob cm ou L) (hrq : ∀ k, k < L → (r'.2.2.1 123) (240 * n + k) = B k)
    (hmv : (r'.2.2.1 130) n = 0 ∨ ((r'.2.2.1 130) n = 1 ∧ ob = 0 ∧ ∃ q, 1 ≤ q ∧ q ≤ 1000 ∧ (r'.2.2.1 129) n = nI q)) {mv : Int32} (hmv2 : mv = if (r'.2.2.1 130) n = 0 then 0 else (r'.2.2.1 129) n) (hca : ca < (g.1 0 3)) (hsv : sv < (g.1 0 3)) (hne : ca ≠ sv) (hob : ob ≤ (g.1 0 4) ∧ (ob = 0 → cm < 4 ∧ ca ≠ sv) ∧ (ob ≠ 0 → cm < (g.2.2.2.2.2 9) ((g.2.2.2.2.2 13) (ob - 1)) ∧ sv = (g.2.2.2.2.2 12) (ob - 1))) (hou : ou ≤ n) (h3 : Cl3 g r' r n ca sv ob cm L)
    (hout : ou ≠ 0 → ca = (g.2.2.2.2.2 15) (ou - 1) ∧ ((g.2.2.2.2.2 14) (ou - 1) = (g.2.2.2.2.2 15) (ou - 1) → (r.2.2.1 118) (ou - 1) = 0) ∧ ((g.2.2.2.2.2 14) (ou - 1) ≠ (g.2.2.2.2.2 15) (ou - 1) → (g.2.2.2.2.2 34) (ou - 1) = 0 ∧ ((r.2.2.1 125) (ou - 1) = 1 ∨ (r.2.2.1 123) (240 * (ou - 1) + 2) ≠ (r.2.2.1 93) ((g.2.2.2.2.2 15) (ou - 1)))) ∧ (∀ i, i < n → (g.2.2.2.2.2 18) i ≠ ou) ∧ ob ≠ 0 ∧ (g.2.2.2.2.2 17) (ou - 1) ≠ 0 ∧ (r.2.2.1 84) (8 * (g.2.2.2.2.2 13) (ob - 1) + cm) = (r.2.2.1 84) (8 * (g.2.2.2.2.2 13) ((g.2.2.2.2.2 17) (ou - 1) - 1) + (g.2.2.2.2.2 16) (ou - 1))) :
    World K tb (clG (gP g1 h2.1 2 (0, 0, 0) (L, fun k => XW.1 71 k)) n h.1 h2.1 ca sv ob cm ou L) r' XW (hset (hnew (hset (hset h2 (x1.2 6) n (.ref h.1)) h.1 10 (.int mv)) 22 L (bytF XW L)) h.1 11 (.ref h2.1)) := by
  have hh := sim_146 hw.1
  obtain ⟨m1, m2, m3⟩ := mkC_ok (n := n) (ca := (g.1 4) ca) (sv := (g.1 4) sv) (cm := cm) (ou := oa) (th := th) (bo := (r.1 75)) hw.1
  have hw1 := w_grw hw hg
  obtain ⟨-, e2, e3, e4, e5, e6, e7, e8, e9, e10, e11, e12, e13, e14⟩ := hg
  rw [mkC_1] at e6 e11 e12 e13
  have t0 := sim_top hw.1 (Nat.le_refl h.1)
  have hro1 : g1.2.2.2.1 h.1 = (0, 0) := by
    rw [e6 h.1 (by omega) (by rw [t0]; exact fun z => by cases z)]
    exact t0
  have hw2 := w_scr hw1 (a := 24) (k := 0) (Or.inr (Or.inr (Or.inr ⟨by omega, by omega, rfl⟩))) mc
  have hcel : h2.2.2 h.1 = (mkC h n ((g.1 4) ca) ((g.1 4) sv) th cm oa ((r.1 75))).2.2 h.1 := e11 _ (by omega)
  have hel : x1.2 6 ≠ h.1 := fun z => by
    have hr := hw1.1.2.1.1 _ _ (ref_el (g := g1) (x2 := x1.2) (q := 6) (by decide) (by decide) (by omega))
    rw [z] at hr
    have := hr.2.2
    rw [hro1] at this
    cases this
  have helt : x1.2 6 < h2.1 := (hw1.1.2.1.1 _ _ (ref_el (g := g1) (x2 := x1.2) (q := 6) (by decide) (by decide) (by omega))).2.1
  -- the cell, filled
  have hw3 : World K tb g1 r (tI x1 24 0 mc) (hnew (hset h2 h.1 10 (.int mv)) 22 L (bytF XW L)) := ⟨sim_new (sim_junk hw2.1 hro1 hh _ _) _ _ _, hw2.2⟩
  have hrob : g1.2.2.2.1 h2.1 = (0, 0) := sim_top hw1.1 (Nat.le_refl _)
  have hw4 := w_prom (a := h2.1) (k := 2) (w := (0, 0, 0)) (w2 := (L, fun k => XW.1 71 k)) hw3 hrob (by omega) (by rw [hn_1, hs_1]; omega) ⟨by omega, by omega⟩ (fun z => absurd z (by decide)) (fun _ => by
    have := hn_s (h := hset h2 h.1 10 (.int mv)) 22 L (bytF XW L)
    rw [hs_1] at this
    rw [this]
    exact byt_row hL2) (fun z => absurd z (by decide))
  have hw5 : World K tb (gP g1 h2.1 2 (0, 0, 0) (L, fun k => XW.1 71 k)) r (tI x1 24 0 mc) (hset (hnew (hset h2 h.1 10 (.int mv)) 22 L (bytF XW L)) h.1 11 (.ref h2.1)) := ⟨sim_junk hw4.1 (by rw [gP_rn (by omega)]; exact hro1) hh _ _, hw4.2⟩
  have hroa : (gP g1 h2.1 2 (0, 0, 0) (L, fun k => XW.1 71 k)).2.2.2.1 h.1 = (0, 0) := by rw [gP_rn (by omega)]; exact hro1
  have hrob2 : (gP g1 h2.1 2 (0, 0, 0) (L, fun k => XW.1 71 k)).2.2.2.1 h2.1 = (2, 0) := gP_ro
  have har : (gP g1 h2.1 2 (0, 0, 0) (L, fun k => XW.1 71 k)).2.2.1 h2.1 = (L, fun k => XW.1 71 k) := gP_ar
  have hG1 : (gP g1 h2.1 2 (0, 0, 0) (L, fun k => XW.1 71 k)).1 = g.1 := e2
  have hG5 : (gP g1 h2.1 2 (0, 0, 0) (L, fun k => XW.1 71 k)).2.2.2.2 = g.2.2.2.2 := e5
  generalize gP g1 h2.1 2 (0, 0, 0) (L, fun k => XW.1 71 k) = G at hw5 hroa hrob2 har hG1 hG5 ⊢
  obtain ⟨gl, gva, gar, gro, grest⟩ := G
  have hG1' : gl = g.1 := hG1
  have hG5' : grest = g.2.2.2.2 := hG5
  subst hG1' hG5'
  have hca2 : cCal n ((g.1 4) ca) ((g.1 4) sv) (if ob = 0 then 0 else (g.1 5) (ob - 1)) cm (if ou = 0 then 0 else (g.1 6) (ou - 1)) ((r.1 75)) 0 0 0 (if (r'.2.2.1 130) n = 0 then 0 else (r'.2.2.1 129) n) h2.1 0 0 0 0 0 ((hset (hnew (hset h2 h.1 10 (.int mv)) 22 L (bytF XW L)) h.1 11 (.ref h2.1)).2.2 h.1) := by
    rw [hs_s, hn_o _ _ _ (by rw [hs_1]; omega), hs_s, hcel, ← hmv2, ← hth, ← hoa]
    obtain ⟨t, q0, q1, q2, q3, q4, q5, q6, q7, q8, q9, q10, q11, q12, q13, q14, q15, q16⟩ := m2
    refine ⟨t, q0, q1, q2, q3, q4, q5, q6, q7, q8, q9, rfl, ?_, q12, q13, q14, q15, q16⟩
    show Value.ref h2.1 = pv h2.1
    rw [pv_n (by omega)]
  have hfin := w_call (a := h.1) (b := h2.1) (n := n) (ca := ca) (sv := sv) (ob := ob) (cm := cm) (ou := ou) (rz := L) hw5 hn hn60 e9 (by
    show n < ((hset (hnew (hset h2 h.1 10 (.int mv)) 22 L (bytF XW L)) h.1 11 (.ref h2.1)).2.2 (x1.2 6)).2.1
    rw [hs_o _ _ hel, hn_o _ _ _ (by rw [hs_1]; omega), hs_o _ _ hel, hn]
    exact e10) hh (by rw [hs_1, hn_1, hs_1]; omega) hroa hcx h1 h2' hmv hca hsv hob hou (fun z => absurd z hne) (fun _ => ⟨⟨by omega, by rw [hs_1, hn_1, hs_1]; omega, hrob2⟩, hL2, ⟨by show (gar h2.1).1 = L; rw [show gar h2.1 = (L, fun k => XW.1 71 k) from har], fun k hk => by
      show isB ((r'.2.2.1 123) (240 * n + k)) ∧ (gar h2.1).2 k = sb ((r'.2.2.1 123) (240 * n + k))
      rw [show gar h2.1 = (L, fun k => XW.1 71 k) from har, hrq k hk]
      exact hB k hk⟩, h3⟩) hout hca2
  have hfin2 := w_xm hfin hX
  have hheap : hset (hset (hnew (hset h2 h.1 10 (.int mv)) 22 L (bytF XW L)) h.1 11 (.ref h2.1)) ((tI x1 24 0 mc).2 6) n (.ref h.1) = hset (hnew (hset (hset h2 (x1.2 6) n (.ref h.1)) h.1 10 (.int mv)) 22 L (bytF XW L)) h.1 11 (.ref h2.1) := by
    show hset (hset (hnew (hset h2 h.1 10 (.int mv)) 22 L (bytF XW L)) h.1 11 (.ref h2.1)) (x1.2 6) n (.ref h.1) = _
    rw [hs_cm (Ne.symm hel), ← hn_cm (by rw [hs_1]; omega), hs_cm (Ne.symm hel)]
  rw [← hheap]
  exact hfin2
end
