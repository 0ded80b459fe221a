section
variable {K : Nat → pcell} {tb : Nat} {g g' g0 g1 : gS} {r r' r0 : rS} {x x' x1 : xS} {h h' h1 : pheap} {d : Nat} {Q : Option Value → pheap → Prop} {a n k m i j : Nat}
theorem cF_p {α : Type} {P : Nat → Bool} (f : Nat → α) (v : α) {k c : Nat} (h1 : c < k) (h2 : P c = true) : cF P f v k c = v := if_pos ⟨h1, h2⟩
theorem cF_q {α : Type} {P : Nat → Bool} (f : Nat → α) (v : α) {k c : Nat} (h2 : ¬ P c = true) : cF P f v k c = f c := if_neg (fun z => h2 z.2)
theorem cG_p {α : Type} {P : Nat → Bool} (f : Nat → α) (v : α) {k c : Nat} (h1 : c < k) (h2 : P c = true) : cG P f v k (60 + c) = v := if_pos ⟨by omega, by omega, by rw [show 60 + c - 60 = c by omega]; exact h2⟩
theorem cG_q {α : Type} {P : Nat → Bool} (f : Nat → α) (v : α) {k c : Nat} (h2 : ¬ P c = true) : cG P f v k (60 + c) = f (60 + c) := if_neg (fun z => h2 (by have := z.2.2; rw [show 60 + c - 60 = c by omega] at this; exact this))
theorem cG_l {α : Type} {P : Nat → Bool} (f : Nat → α) (v : α) {k c : Nat} (h : c < 60) : cG P f v k c = f c := if_neg (by omega)
theorem cF_h {α : Type} {P : Nat → Bool} (f : Nat → α) (v : α) {k c : Nat} (h : k ≤ c) : cF P f v k c = f c := if_neg (by omega)
theorem w_rest (hw : World K tb g r x h) (hi : i < (g.1 0 3)) (ha : (r.2.2.1 93) i = nI a) (ha2 : a < 200) (hs : Sim K (rsG g i (g.1 0 5) (g.1 0 5)) (rsR g (sA r 93 i (nI (a + 1))) i (g.1 0 5) (g.1 0 5)) x h') : World K tb (rsG g i (g.1 0 5) (g.1 0 5)) (rsR g (sA r 93 i (nI (a + 1))) i (g.1 0 5) (g.1 0 5)) x h' := by
  obtain ⟨c1, c2, c3⟩ := w_nc hw
  obtain ⟨hS, hI, hms⟩ := hw
  obtain ⟨hCnt, hTxt, hBk, hDs, hOb, hNo, hVa, hFa, hCa, hWy⟩ := hI
  obtain ⟨m1, m2, m3, m4, m5⟩ := hms
  have hag : ∀ j, j ≠ i → (sA r 93 i (nI (a + 1))).2.2.1 93 j = (r.2.2.1 93) j := fun j hj => sA_K _ _ _ _ hj
  have hai : (sA r 93 i (nI (a + 1))).2.2.1 93 i = nI (a + 1) := sA_s _ _ _ _
  have hrf : ∀ {o : Nat} (v : Int32), (v = -1 ∨ ∃ p q, p ≤ q ∧ q ≤ 200 ∧ v = nI p ∧ (r.2.2.1 93) ((g.2.2.2.2.2 12) o) = nI q) → (v = -1 ∨ ∃ p q, p ≤ q ∧ q ≤ 200 ∧ v = nI p ∧ (sA r 93 i (nI (a + 1))).2.2.1 93 ((g.2.2.2.2.2 12) o) = nI q) := fun v hv => by
    rename_i o
    rcases hv with hv | ⟨p, q, h1, h2, h3, h4⟩
    · exact Or.inl hv
    · refine Or.inr ?_
      by_cases e : (g.2.2.2.2.2 12) o = i
      · rw [e, ha, ni_eq (by omega) (by omega)] at h4
        exact ⟨p, a + 1, by omega, by omega, h3, by rw [e]; exact hai⟩
      · exact ⟨p, q, h1, h2, h3, by rw [hag _ e]; exact h4⟩
  -- the rows
  have rSt : ∀ c, c < (g.1 0 5) → (rsR g (sA r 93 i (nI (a + 1))) i (g.1 0 5) (g.1 0 5)).2.2.1 118 c = (if (g.2.2.2.2.2 14) c = i ∧ (r.2.2.1 118) c = 0 then 5 else (r.2.2.1 118) c) := fun c hc => by
    show cF (pW g (sA r 93 i (nI (a + 1))) i) ((r.2.2.1 118)) 5 (g.1 0 5) c = _
    by_cases e : (g.2.2.2.2.2 14) c = i ∧ (r.2.2.1 118) c = 0
    · rw [if_pos e]
      exact cF_p _ _ hc (decide_eq_true e)
    · rw [if_neg e]
      exact cF_q _ _ (fun z => e (of_decide_eq_true z))
  have rAw : ∀ c, c < (g.1 0 5) → (rsR g (sA r 93 i (nI (a + 1))) i (g.1 0 5) (g.1 0 5)).2.2.1 120 c = (if (g.2.2.2.2.2 14) c = i ∧ (r.2.2.1 118) c = 0 then 0 else (r.2.2.1 120) c) := fun c hc => by
    show cF (pW g (sA r 93 i (nI (a + 1))) i) ((r.2.2.1 120)) 0 (g.1 0 5) c = _
    by_cases e : (g.2.2.2.2.2 14) c = i ∧ (r.2.2.1 118) c = 0
    · rw [if_pos e]
      exact cF_p _ _ hc (decide_eq_true e)
    · rw [if_neg e]
      exact cF_q _ _ (fun z => e (of_decide_eq_true z))
  have rBe : ∀ c, c < (g.1 0 5) → (rsR g (sA r 93 i (nI (a + 1))) i (g.1 0 5) (g.1 0 5)).2.2.1 125 c = (if (g.2.2.2.2.2 15) c = i then 0 else (r.2.2.1 125) c) := fun c hc => by
    show cF (pS g i) ((r.2.2.1 125)) 0 (g.1 0 5) c = _
    by_cases e : (g.2.2.2.2.2 15) c = i
    · rw [if_pos e]
      exact cF_p _ _ hc (decide_eq_true e)
    · rw [if_neg e]
      exact cF_q _ _ (fun z => e (of_decide_eq_true z))
  have rSh : ∀ c, c < (g.1 0 5) → (rsR g (sA r 93 i (nI (a + 1))) i (g.1 0 5) (g.1 0 5)).2.2.1 126 c = (if (g.2.2.2.2.2 15) c = i then 0 else (r.2.2.1 126) c) := fun c hc => by
    show cF (pS g i) ((r.2.2.1 126)) 0 (g.1 0 5) c = _
    by_cases e : (g.2.2.2.2.2 15) c = i
    · rw [if_pos e]
      exact cF_p _ _ hc (decide_eq_true e)
    · rw [if_neg e]
      exact cF_q _ _ (fun z => e (of_decide_eq_true z))
  have got0 : ∀ {α : Type} (f : Nat → α) (v : α) c, c < (g.1 0 5) → cG (pC g i) (cF (pS g i) f v (g.1 0 5)) v (g.1 0 5) c = (if (g.2.2.2.2.2 15) c = i then v else f c) := fun f v c hc => by
    rw [cG_l _ _ (by omega)]
    by_cases e : (g.2.2.2.2.2 15) c = i
    · rw [if_pos e]
      exact cF_p _ _ hc (decide_eq_true e)
    · rw [if_neg e]
      exact cF_q _ _ (fun z => e (of_decide_eq_true z))
  have got1 : ∀ {α : Type} (f : Nat → α) (v : α) c, c < (g.1 0 5) → cG (pC g i) (cF (pS g i) f v (g.1 0 5)) v (g.1 0 5) (60 + c) = (if (g.2.2.2.2.2 14) c = i then v else f (60 + c)) := fun f v c hc => by
    by_cases e : (g.2.2.2.2.2 14) c = i
    · rw [if_pos e]
      exact cG_p _ _ hc (decide_eq_true e)
    · rw [if_neg e, cG_q _ _ (fun z => e (of_decide_eq_true z)), cF_h _ _ (by omega)]
  refine ⟨hs, ⟨hCnt, hTxt, hBk, ?_, hOb, hNo, hVa, hFa, ?_, ⟨hWy.1, ?_⟩⟩, m1, ⟨m2.1, ?_⟩, ?_, m4, ?_⟩
  · intro j hj8
    obtain ⟨a1, a2, a3, a4, a5, a6⟩ := hDs j hj8
    by_cases e : j = i
    · subst e
      refine ⟨fun z => absurd hi (by have z' : (g.1 0 3) ≤ j := z; omega), ⟨a + 1, by omega, hai⟩, a3, a4, a5, fun z o ho => ⟨hrf _ ((a6 z o ho).1), (a6 z o ho).2⟩⟩
    · refine ⟨fun z => ?_, ?_, a3, a4, a5, fun z o ho => ⟨hrf _ ((a6 z o ho).1), (a6 z o ho).2⟩⟩
      · obtain ⟨b1, b2⟩ := a1 z
        exact ⟨(hag j e).trans b1, b2⟩
      · obtain ⟨b, b1, b2⟩ := a2
        exact ⟨b, b1, (hag j e).trans b2⟩
  · intro c hc
    obtain ⟨u1, u2, u3, u4, u5, u6, u7, u8, u9, u10, u11, u12, u13, u14, u15, u16, u17⟩ := hCa c hc
    rw [rSt c hc, rAw c hc, rBe c hc, rSh c hc]
    refine ⟨u1, u2, u3, u4, u5, u6, u7, u8, u9, u10, u11, ?_, ?_, ?_, u15, ?_, u17⟩
    · by_cases e : (g.2.2.2.2.2 14) c = i ∧ (r.2.2.1 118) c = 0
      · rw [if_pos e]; exact ⟨5, by omega, rfl⟩
      · rw [if_neg e]; exact u12
    · by_cases e : (g.2.2.2.2.2 15) c = i
      · rw [if_pos e]; exact Or.inl rfl
      · rw [if_neg e]; exact u13
    · by_cases e : (g.2.2.2.2.2 15) c = i
      · rw [if_pos e]; exact Or.inl rfl
      · rw [if_neg e]; exact u14
    · by_cases e : (g.2.2.2.2.2 14) c = i ∧ (r.2.2.1 118) c = 0
      · rw [if_pos e]; exact Or.inl rfl
      · rw [if_neg e]; exact u16
  · intro c hc w hw
    obtain ⟨y1, y2, y3⟩ := hWy.2 c hc w hw
    obtain rfl | rfl : w = 0 ∨ w = 1 := by omega
    · simp only [Nat.mul_zero, Nat.zero_add] at y1 y2 y3 ⊢
      refine ⟨y1, fun z hz => ?_, fun hz => ?_⟩
      · have e := got0 ((g.2.2.2.2.2 31)) 0 c hz
        show cG (pC g i) (cF (pS g i) ((g.2.2.2.2.2 31)) 0 (g.1 0 5)) 0 (g.1 0 5) c = 0
        rw [e, y2 z hz]
        split <;> rfl
      · have e1 := got0 ((g.2.2.2.2.2 31)) 0 c hz
        have e2 := got0 ((g.2.2.2.2.2 30)) 0 c hz
        have e3 := got0 ((r.2.2.1 144)) 0 c hz
        have e4 := got0 ((r.2.2.1 143)) 0 c hz
        show cG (pC g i) (cF (pS g i) ((r.2.2.1 144)) 0 (g.1 0 5)) 0 (g.1 0 5) c = nI (cG (pC g i) (cF (pS g i) ((g.2.2.2.2.2 31)) 0 (g.1 0 5)) 0 (g.1 0 5) c) ∧ cG (pC g i) (cF (pS g i) ((g.2.2.2.2.2 31)) 0 (g.1 0 5)) 0 (g.1 0 5) c < 1024 ∧ cG (pC g i) (cF (pS g i) ((r.2.2.1 143)) 0 (g.1 0 5)) 0 (g.1 0 5) c = nI (cG (pC g i) (cF (pS g i) ((g.2.2.2.2.2 30)) 0 (g.1 0 5)) 0 (g.1 0 5) c) ∧ cG (pC g i) (cF (pS g i) ((g.2.2.2.2.2 30)) 0 (g.1 0 5)) 0 (g.1 0 5) c ≤ 10
        rw [e1, e2, e3, e4]
        by_cases e : (g.2.2.2.2.2 15) c = i
        · simp only [if_pos e]
          exact ⟨rfl, by omega, rfl, by omega⟩
        · simp only [if_neg e]
          exact y3 hz
    · simp only [Nat.mul_one] at y1 y2 y3 ⊢
      refine ⟨y1, fun z hz => ?_, fun hz => ?_⟩
      · have e := got1 ((g.2.2.2.2.2 31)) 0 c hz
        show cG (pC g i) (cF (pS g i) ((g.2.2.2.2.2 31)) 0 (g.1 0 5)) 0 (g.1 0 5) (60 + c) = 0
        rw [e, y2 z hz]
        split <;> rfl
      · have e1 := got1 ((g.2.2.2.2.2 31)) 0 c hz
        have e2 := got1 ((g.2.2.2.2.2 30)) 0 c hz
        have e3 := got1 ((r.2.2.1 144)) 0 c hz
        have e4 := got1 ((r.2.2.1 143)) 0 c hz
        show cG (pC g i) (cF (pS g i) ((r.2.2.1 144)) 0 (g.1 0 5)) 0 (g.1 0 5) (60 + c) = nI (cG (pC g i) (cF (pS g i) ((g.2.2.2.2.2 31)) 0 (g.1 0 5)) 0 (g.1 0 5) (60 + c)) ∧ cG (pC g i) (cF (pS g i) ((g.2.2.2.2.2 31)) 0 (g.1 0 5)) 0 (g.1 0 5) (60 + c) < 1024 ∧ cG (pC g i) (cF (pS g i) ((r.2.2.1 143)) 0 (g.1 0 5)) 0 (g.1 0 5) (60 + c) = nI (cG (pC g i) (cF (pS g i) ((g.2.2.2.2.2 30)) 0 (g.1 0 5)) 0 (g.1 0 5) (60 + c)) ∧ cG (pC g i) (cF (pS g i) ((g.2.2.2.2.2 30)) 0 (g.1 0 5)) 0 (g.1 0 5) (60 + c) ≤ 10
        rw [e1, e2, e3, e4]
        by_cases e : (g.2.2.2.2.2 14) c = i
        · simp only [if_pos e]
          exact ⟨rfl, by omega, rfl, by omega⟩
        · simp only [if_neg e]
          exact y3 hz
  · intro c hc
    obtain ⟨y1, y2, y3, y4⟩ := m2.2 c hc
    have e1 := got0 ((g.2.2.2.2.2 31)) 0 c hc
    have e2 := got0 ((g.2.2.2.2.2 30)) 0 c hc
    have e3 := got1 ((g.2.2.2.2.2 31)) 0 c hc
    have e4 := got1 ((g.2.2.2.2.2 30)) 0 c hc
    show ((g.2.2.2.2.2 14) c = (g.2.2.2.2.2 15) c → cG (pC g i) (cF (pS g i) ((g.2.2.2.2.2 31)) 0 (g.1 0 5)) 0 (g.1 0 5) c = 0 ∧ cG (pC g i) (cF (pS g i) ((g.2.2.2.2.2 31)) 0 (g.1 0 5)) 0 (g.1 0 5) (60 + c) = 0) ∧ gotP (cG (pC g i) (cF (pS g i) ((g.2.2.2.2.2 31)) 0 (g.1 0 5)) 0 (g.1 0 5) c) (cG (pC g i) (cF (pS g i) ((g.2.2.2.2.2 30)) 0 (g.1 0 5)) 0 (g.1 0 5) c) _ _ _ _ ∧ gotP (cG (pC g i) (cF (pS g i) ((g.2.2.2.2.2 31)) 0 (g.1 0 5)) 0 (g.1 0 5) (60 + c)) (cG (pC g i) (cF (pS g i) ((g.2.2.2.2.2 30)) 0 (g.1 0 5)) 0 (g.1 0 5) (60 + c)) _ _ _ _ ∧ (cG (pC g i) (cF (pS g i) ((g.2.2.2.2.2 31)) 0 (g.1 0 5)) 0 (g.1 0 5) (60 + c) ≠ 0 → (g.2.2.2.2.2 34) c ≠ 0)
    rw [e1, e2, e3, e4]
    refine ⟨fun z => ⟨?_, ?_⟩, ?_, ?_, ?_⟩
    · rw [(y1 z).1]; split <;> rfl
    · rw [(y1 z).2]; split <;> rfl
    · by_cases e : (g.2.2.2.2.2 15) c = i
      · simp only [if_pos e]; exact fun z => absurd rfl z
      · simp only [if_neg e]; exact y2
    · by_cases e : (g.2.2.2.2.2 14) c = i
      · simp only [if_pos e]; exact fun z => absurd rfl z
      · simp only [if_neg e]; exact y3
    · by_cases e : (g.2.2.2.2.2 14) c = i
      · simp only [if_pos e]; exact fun z => absurd rfl z
      · simp only [if_neg e]; exact y4
  · intro c hc hl
    obtain ⟨y1, y2, y3, ⟨p, q, p1, p2, p3, p4⟩, y5⟩ := m3 c hc hl
    refine ⟨y1, y2, y3, ?_, y5⟩
    by_cases e : (g.2.2.2.2.2 15) c = i
    · rw [e, ha] at p4
      have : a = q := by
        rw [ni_eq (by omega) (by omega)] at p4
        exact p4
      exact ⟨p, a + 1, by omega, by omega, p3, by show (sA r 93 i (nI (a + 1))).2.2.1 93 ((g.2.2.2.2.2 15) c) = _; rw [e]; exact hai⟩
    · exact ⟨p, q, p1, p2, p3, (hag _ e).trans p4⟩
  · intro c hc
    obtain ⟨y1, y2, y3, y4, y5, y6⟩ := m5 c hc
    rw [rSt c hc, rAw c hc, rBe c hc, rSh c hc]
    refine ⟨fun hl hb => ?_, fun hl hz => ?_, fun hb => ?_, fun i' hi' ho => ?_, fun hz => ?_, fun hl hz => ?_⟩
    · by_cases e : (g.2.2.2.2.2 15) c = i
      · rw [if_pos e] at hb; exact absurd hb (by decide)
      · rw [if_neg e] at hb
        exact (y1 hl hb).trans (hag _ e).symm
    · by_cases e : (g.2.2.2.2.2 15) c = i
      · right
        obtain ⟨-, -, -, ⟨p, q, p1, p2, p3, p4⟩, -⟩ := m3 c hc hl
        rw [e, ha, ni_eq (by omega) (by omega)] at p4
        show (r.2.2.1 123) (240 * c + 2) ≠ (sA r 93 i (nI (a + 1))).2.2.1 93 ((g.2.2.2.2.2 15) c)
        rw [e, hai, p3]
        intro z
        rw [ni_eq (by omega) (by omega)] at z
        omega
      · rw [if_neg e]
        rcases y2 hl hz with u | u
        · exact Or.inl u
        · exact Or.inr (fun z => u (z.trans (hag _ e)))
    · by_cases e : (g.2.2.2.2.2 15) c = i
      · rw [if_pos e] at hb; exact absurd hb (by decide)
      · rw [if_neg e] at hb
        exact y3 hb
    · obtain ⟨v1, v2, v3, v4⟩ := y4 i' hi' ho
      refine ⟨v1, v2, fun z => ?_, v4⟩
      rw [rSt i' hi'] at z
      by_cases e : (g.2.2.2.2.2 14) i' = i ∧ (r.2.2.1 118) i' = 0
      · rw [if_pos e] at z; exact absurd z (by decide)
      · rw [if_neg e] at z
        obtain ⟨w1, w2⟩ := v3 z
        refine ⟨fun hl => ?_, w2⟩
        have hne : (g.2.2.2.2.2 14) i' ≠ i := fun q => e ⟨q, z⟩
        have v2' : (g.2.2.2.2.2 14) i' = (g.2.2.2.2.2 15) c := v2
        have hl' : (g.2.2.2.2.2 14) c = (g.2.2.2.2.2 15) c := hl
        rw [if_neg (fun q => hne (by rw [v2', ← hl']; exact q.1))]
        exact w1 hl
    · by_cases e : (g.2.2.2.2.2 14) c = i ∧ (r.2.2.1 118) c = 0
      · rw [if_pos e] at hz; exact absurd hz (by decide)
      · rw [if_neg e] at hz ⊢
        exact y5 hz
    · by_cases e : (g.2.2.2.2.2 14) c = i ∧ (r.2.2.1 118) c = 0
      · rw [if_pos e] at hz; exact absurd hz (by decide)
      · rw [if_neg e] at hz
        exact y6 hl hz
theorem t_restart (hw : World K tb g r x h) (n : Int32) : Same K tb r x h 159 [.ref 5, .int n, mk0, mk0] 280 [.ref 73, .int n, mk0] := by
  have hh := sim_146 hw.1
  obtain ⟨c1, c2, c3⟩ := w_nd hw
  rcases in_or n (g.1 0 3) (by omega) with ⟨i, rfl, hi⟩ | hn
  · obtain ⟨a1, a2, ⟨t, q0, q1, q2, q3, q4, q5, q6, q7⟩⟩ := s_dsk hw.1 hi
    obtain ⟨-, ⟨a, ha, hai⟩, -⟩ := w_dsk hw i (by omega)
    rw [hai] at q1
    by_cases h2 : a < 200
    · have s1 := op_age hw.1 hi (nI (a + 1))
      have hH := w_rsH hw
      have hH1 : RsH g (sA r 93 i (nI (a + 1))) := hH
      have s0 : Sim K (rsG g i 0 0) (rsR g (sA r 93 i (nI (a + 1))) i 0 0) x (hset h ((g.1 4) i) 1 (.int (nI (a + 1)))) := by
        have eG : rsG g i 0 0 = g := by
          unfold rsG
          rw [cF_0, cF_0, cF_0, cG_0, cG_0]
          refine gS_ext rfl rfl rfl rfl rfl (fun b => ?_)
          show upN (upN (upN g.2.2.2.2.2 20 ((g.2.2.2.2.2 20))) 31 ((g.2.2.2.2.2 31))) 30 ((g.2.2.2.2.2 30)) b = _
          by_cases e : b = 30
          · subst e; rfl
          · rw [upN_n _ _ e]
            by_cases e : b = 31
            · subst e; rfl
            · rw [upN_n _ _ e, upN_i]
        have eR : rsR g (sA r 93 i (nI (a + 1))) i 0 0 = sA r 93 i (nI (a + 1)) := by
          unfold rsR fgR
          rw [cF_0, cF_0, cF_0, cF_0, cF_0, cF_0, cG_0, cG_0]
          generalize sA r 93 i (nI (a + 1)) = s
          rw [sR_i, sR_i, sR_i, sR_i, sR_i, sR_i]
        rw [eG, eR]
        exact s1
      obtain ⟨h', s2, e1, e2, hrun⟩ := rs_loop hH1 hi (nn := nI i) (g.1 0 5) 0 _ (by omega) s0
      have hw1 := w_rest hw hi hai h2 s2
      obtain ⟨b1, b2, bt, b0, bq1, -⟩ := s_dsk s2 (i := i) hi
      have bt' : (h'.2.2 ((g.1 4) i)).1 = 4 := bt
      have bq' : (h'.2.2 ((g.1 4) i)).2.2 1 = .int (nI (a + 1)) := by
        have : (rsR g (sA r 93 i (nI (a + 1))) i (g.1 0 5) (g.1 0 5)).2.2.1 93 i = nI (a + 1) := sA_s r 93 i (nI (a + 1))
        rw [← this]
        exact bq1
      rw [hs_1] at e1
      rw [hs_u] at e2
      refine same_of (v := some (.int (nI (a + 1)))) (w_up hw1) (fun d Q => ?_) (fun d h Q hh => ?_) (by omega) (by omega)
      · have r1 := fun Q => hrun (d + 95) r Q
        have hx : Go (d + 100) 159 70 [.ref 5, .int (nI i), .ref ((g.1 4) i), .int (nI (g.1 0 5))] [] (putR r (putX x h')) Q = Q (some (.int (nI (a + 1)))) (putR r (putX x h')) := by
          have hh' : 146 ≤ h'.1 := by omega
          have hh := hh'
          have a2' : (g.1 4) i < h'.1 := by omega
          simp (disch := first | exact c1_i _ | exact c1_r _ | exact c1_n | exact c1_m | omega | assumption | (apply ac_l; omega) | (apply ac_r; omega) | decide | exact Or.inl rfl) only [e_159_70, e_159_70n, e_159_71, e_159_74, Option.toList_some, Option.toList_none, List.cons_append, List.nil_append, catS_cons, catS_nil, cat_int, cat_long, cat_ref, cat_null, c1_i, c1_r, c1_n, c1_m, true_and, and_true, and_self, putR_1, putR_u, eq_self, Nat.reduceLT, Nat.reduceLeDiff, Nat.reduceAdd, Nat.reduceEqDiff, vk_i, vk_l, vk_r, vk_n, vk_0, vk_1, if_true, if_false, not_true_eq_false, not_false_eq_true, false_and, and_false, ne_eq, true_or, or_true, ite_not, reduceCtorEq, putX_1, putX_u, putX_hi, hset_Xhi, px_5, xf_5_0, xf_5_1, xI_5_1, xf_5_2, xR_0, xf_5_3, xI_5_3, xf_5_4, xI_5_4, xf_5_5, xf_5_6, xI_5_6, xf_5_7, xf_5_8, xf_5_9, xf_5_10, xf_5_11, xf_5_12, xf_5_13, xf_5_14, xf_5_15, xI_5_15, px_6, xA_6, px_18, xA_18, px_19, xf_19_0, xI_19_0, xf_19_1, xR_1, xf_19_2, xI_19_2, px_20, xf_20_0, xI_20_0, xf_20_1, xR_2, xf_20_2, xI_20_2, px_21, xf_21_0, xI_21_0, xf_21_1, xR_3, xf_21_2, xI_21_2, px_22, xf_22_0, xI_22_0, xf_22_1, xR_4, xf_22_2, xI_22_2, px_23, xf_23_0, xI_23_0, xf_23_1, xR_5, xf_23_2, xI_23_2, px_24, xf_24_0, xI_24_0, xf_24_1, xR_6, xf_24_2, xI_24_2, px_25, xf_25_0, xI_25_0, xf_25_1, xI_25_1, xf_25_2, xf_25_3, xI_25_3, xf_25_4, xf_25_5, xf_25_6, px_26, xA_26, px_27, px_28, xA_28, px_29, xA_29, px_30, xA_30, px_31, xA_31, px_32, xA_32, px_33, xA_33, px_34, xA_34, px_35, xA_35, px_36, xA_36, px_37, xA_37, px_38, xA_38, px_39, xA_39, px_40, xA_40, px_41, xA_41, px_42, xA_42, px_43, xA_43, px_44, xA_44, px_45, xA_45, px_46, xA_46, px_47, xA_47, px_48, xA_48, px_49, xA_49, px_50, xA_50, px_51, xA_51, px_52, xA_52, px_53, xA_53, px_54, xA_54, px_55, xA_55, px_56, xA_56, px_57, xA_57, px_58, xA_58, px_59, xA_59, px_60, xA_60, px_61, xA_61, px_62, xA_62, px_63, xA_63, px_64, xA_64, px_65, xA_65, px_66, xA_66, px_67, xA_67, px_68, xA_68, px_69, xA_69, px_70, xf_70_0, xI_70_0, xf_70_1, xI_70_1, xf_70_2, xI_70_2, xf_70_3, xf_70_4, px_71, xA_71, px_72, xA_72, ni_ixL, ni_clL, ni_add, ni_mul, ni_lt, ni_le, ni_eq, ni_clamp, ni_ix, ni_lt0, ni_0le, ni_ltL, ni_Llt, ni_leL, ni_Lle, ni_eqL, ni_addL, ni_Ladd, ni_mulL, ni_Lmul, ni_subL, ni_sub, ni_Lsub, le_t, le_f, lt_t, lt_f, eq_f, il_lt, il_l0, il_g0, il_l1, il_g1, il_l2, il_g2, il_l3, il_g3, il_l4, il_g4, il_l5, il_g5, il_l7, il_g7, il_l8, il_g8, il_l9, il_g9, il_l10, il_g10, il_l15, il_g15, il_l20, il_g20, il_l23, il_g23, il_l24, il_g24, il_l60, il_g60, il_l100, il_g100, il_l999, il_g999, il_l1000, il_g1000, putR_lo, hset_lo, putR_lt hh, rd_hi, wr_hi, hs_1, hs_s, hs_o, uv_s, uv_o, pv_0, pv_n, i1_0, bs_0, bs_1, im_lt, im_ge, im_eq, ni_em, bt', bq']
        rw [← hx, ← r1]
        simp (disch := first | exact c1_i _ | exact c1_r _ | exact c1_n | exact c1_m | omega | assumption | (apply ac_l; omega) | (apply ac_r; omega) | decide | exact Or.inl rfl) only [e_159_0, e_159_0n, e_159_1, e_159_2, e_159_5, e_159_5n, e_159_6, e_159_6n, e_159_7n, e_159_7, e_159_10, e_159_12, e_159_13, e_159_13n, e_159_14, e_159_17, e_159_20, e_159_23, e_159_25, e_159_26, e_159_26n, e_159_27, e_159_28, e_159_31, e_159_32, e_159_33, e_159_36, e_159_37, Option.toList_some, Option.toList_none, List.cons_append, List.nil_append, catS_cons, catS_nil, cat_int, cat_long, cat_ref, cat_null, c1_i, c1_r, c1_n, c1_m, true_and, and_true, and_self, putR_1, putR_u, eq_self, Nat.reduceLT, Nat.reduceLeDiff, Nat.reduceAdd, Nat.reduceEqDiff, vk_i, vk_l, vk_r, vk_n, vk_0, vk_1, if_true, if_false, not_true_eq_false, not_false_eq_true, false_and, and_false, ne_eq, true_or, or_true, ite_not, reduceCtorEq, putX_1, putX_u, putX_hi, hset_Xhi, px_5, xf_5_0, xf_5_1, xI_5_1, xf_5_2, xR_0, xf_5_3, xI_5_3, xf_5_4, xI_5_4, xf_5_5, xf_5_6, xI_5_6, xf_5_7, xf_5_8, xf_5_9, xf_5_10, xf_5_11, xf_5_12, xf_5_13, xf_5_14, xf_5_15, xI_5_15, px_6, xA_6, px_18, xA_18, px_19, xf_19_0, xI_19_0, xf_19_1, xR_1, xf_19_2, xI_19_2, px_20, xf_20_0, xI_20_0, xf_20_1, xR_2, xf_20_2, xI_20_2, px_21, xf_21_0, xI_21_0, xf_21_1, xR_3, xf_21_2, xI_21_2, px_22, xf_22_0, xI_22_0, xf_22_1, xR_4, xf_22_2, xI_22_2, px_23, xf_23_0, xI_23_0, xf_23_1, xR_5, xf_23_2, xI_23_2, px_24, xf_24_0, xI_24_0, xf_24_1, xR_6, xf_24_2, xI_24_2, px_25, xf_25_0, xI_25_0, xf_25_1, xI_25_1, xf_25_2, xf_25_3, xI_25_3, xf_25_4, xf_25_5, xf_25_6, px_26, xA_26, px_27, px_28, xA_28, px_29, xA_29, px_30, xA_30, px_31, xA_31, px_32, xA_32, px_33, xA_33, px_34, xA_34, px_35, xA_35, px_36, xA_36, px_37, xA_37, px_38, xA_38, px_39, xA_39, px_40, xA_40, px_41, xA_41, px_42, xA_42, px_43, xA_43, px_44, xA_44, px_45, xA_45, px_46, xA_46, px_47, xA_47, px_48, xA_48, px_49, xA_49, px_50, xA_50, px_51, xA_51, px_52, xA_52, px_53, xA_53, px_54, xA_54, px_55, xA_55, px_56, xA_56, px_57, xA_57, px_58, xA_58, px_59, xA_59, px_60, xA_60, px_61, xA_61, px_62, xA_62, px_63, xA_63, px_64, xA_64, px_65, xA_65, px_66, xA_66, px_67, xA_67, px_68, xA_68, px_69, xA_69, px_70, xf_70_0, xI_70_0, xf_70_1, xI_70_1, xf_70_2, xI_70_2, xf_70_3, xf_70_4, px_71, xA_71, px_72, xA_72, ni_ixL, ni_clL, ni_add, ni_mul, ni_lt, ni_le, ni_eq, ni_clamp, ni_ix, ni_lt0, ni_0le, ni_ltL, ni_Llt, ni_leL, ni_Lle, ni_eqL, ni_addL, ni_Ladd, ni_mulL, ni_Lmul, ni_subL, ni_sub, ni_Lsub, le_t, le_f, lt_t, lt_f, eq_f, il_lt, il_l0, il_g0, il_l1, il_g1, il_l2, il_g2, il_l3, il_g3, il_l4, il_g4, il_l5, il_g5, il_l7, il_g7, il_l8, il_g8, il_l9, il_g9, il_l10, il_g10, il_l15, il_g15, il_l20, il_g20, il_l23, il_g23, il_l24, il_g24, il_l60, il_g60, il_l100, il_g100, il_l999, il_g999, il_l1000, il_g1000, putR_lo, hset_lo, putR_lt hh, rd_hi, wr_hi, hs_1, hs_s, hs_o, uv_s, uv_o, pv_0, pv_n, i1_0, bs_0, bs_1, im_lt, im_ge, im_eq, ni_em, x_desk_i hw hi, t, q1]
        rfl
      · have r1 := rr_loop (d := d + 98) (Q := Q) hH1 hh hi (g.1 0 5) 0 (by omega)
        have e9 : (sA r 93 i (nI (a + 1))).2.2.1 93 i = nI (a + 1) := sA_s _ _ _ _
        rw [e9] at r1
        rw [← r1]
        have eR : rsR g (sA r 93 i (nI (a + 1))) i 0 0 = sA r 93 i (nI (a + 1)) := by
          unfold rsR fgR
          rw [cF_0, cF_0, cF_0, cF_0, cF_0, cF_0, cG_0, cG_0]
          generalize sA r 93 i (nI (a + 1)) = s
          rw [sR_i, sR_i, sR_i, sR_i, sR_i, sR_i]
        rw [eR]
        have h9 : ¬ a = 200 := by omega
        simp (disch := first | exact c1_i _ | exact c1_r _ | exact c1_n | exact c1_m | omega | assumption | (apply ac_l; omega) | (apply ac_r; omega) | decide | exact Or.inl rfl) only [e_280_0, e_280_0n, e_280_1, e_280_2, e_280_5, e_280_8, e_280_11, e_280_12, e_280_12n, e_280_13, e_280_16, e_280_17, e_280_18, e_280_21, e_280_24, e_280_26, e_280_27, e_280_27n, e_280_28, e_280_31, e_280_32, e_280_33, e_280_34, e_280_35, e_280_36, e_280_37, e_280_38, Option.toList_some, Option.toList_none, List.cons_append, List.nil_append, catS_cons, catS_nil, cat_int, cat_long, cat_ref, cat_null, c1_i, c1_r, c1_n, c1_m, true_and, and_true, and_self, putR_1, putR_u, eq_self, Nat.reduceLT, Nat.reduceLeDiff, Nat.reduceAdd, Nat.reduceEqDiff, vk_i, vk_l, vk_r, vk_n, vk_0, vk_1, if_true, if_false, not_true_eq_false, not_false_eq_true, false_and, and_false, ne_eq, true_or, or_true, ite_not, reduceCtorEq, pr_73, pr_74, pr_75, pr_76, pr_77, pr_78, pr_79, pr_80, pr_81, pr_82, pr_83, pr_84, pr_85, pr_86, pr_87, pr_88, pr_89, pr_90, pr_91, pr_92, pr_93, pr_94, pr_95, pr_96, pr_97, pr_98, pr_99, pr_100, pr_101, pr_102, pr_103, pr_104, pr_105, pr_106, pr_107, pr_108, pr_109, pr_110, pr_111, pr_112, pr_113, pr_114, pr_115, pr_116, pr_117, pr_118, pr_119, pr_120, pr_121, pr_122, pr_123, pr_124, pr_125, pr_126, pr_127, pr_128, pr_129, pr_130, pr_131, pr_132, pr_133, pr_134, pr_135, pr_136, pr_137, pr_138, pr_139, pr_140, pr_141, pr_142, pr_143, pr_144, pr_145, rf_0, rf_1, hI_1, rf_2, hI_2, rf_3, hI_3, rf_4, hI_4, rf_5, hI_5, rf_6, hI_6, rf_7, hI_7, rf_8, rf_9, rf_10, rf_11, hI_11, rf_12, rf_13, rf_14, rf_15, rf_16, hI_16, rf_17, rf_18, rf_19, rf_20, rf_21, rf_22, rf_23, hI_23, rf_24, rf_25, rf_26, rf_27, rf_28, hI_28, rf_29, rf_30, hI_30, rf_31, rf_32, hI_32, rf_33, hI_33, rf_34, rf_35, rf_36, rf_37, rf_38, rf_39, rf_40, rf_41, hI_41, rf_42, rf_43, rf_44, rf_45, rf_46, rf_47, rf_48, rf_49, rf_50, hI_50, rf_51, rf_52, rf_53, rf_54, rf_55, rf_56, rf_57, hI_57, rf_58, rf_59, rf_60, rf_61, rf_62, rf_63, rf_64, rf_65, rf_66, rf_67, rf_68, rf_69, rf_70, rf_71, rf_72, rf_73, rf_74, rf_75, hI_75, rf_76, rf_77, rf_78, hI_78, rf_79, rf_80, rf_81, hI_81, rf_82, hI_82, rf_83, rf_84, hI_84, rf_85, rf_86, rf_87, hI_87, rf_88, hI_88, rf_89, hI_89, rf_90, hI_90, rf_91, rf_92, rf_93, rf_94, hI_94, rf_95, hI_95, rf_96, rf_97, rf_98, rf_99, rf_100, hset_W, hA_74, hL_75, hA_76, hL_77, hA_78, hL_79, hA_80, hL_81, hA_82, hL_83, hA_84, hA_85, hA_86, hL_87, hA_88, hA_89, hA_90, hA_91, hA_92, hA_93, hA_94, hA_95, hA_96, hA_97, hA_98, hA_99, hA_100, hA_101, hA_102, hA_103, hA_104, hA_105, hL_106, hA_107, hA_108, hA_109, hA_110, hA_111, hA_112, hA_113, hA_114, hA_115, hA_116, hA_117, hA_118, hA_119, hA_120, hA_121, hA_122, hA_123, hA_124, hA_125, hA_126, hA_127, hA_128, hA_129, hA_130, hA_131, hA_132, hA_133, hA_134, hA_135, hA_136, hA_137, hA_138, hA_139, hA_140, hA_141, hA_142, hA_143, hA_144, hA_145, ni_ixL, ni_clL, ni_add, ni_mul, ni_lt, ni_le, ni_eq, ni_clamp, ni_ix, ni_lt0, ni_0le, ni_ltL, ni_Llt, ni_leL, ni_Lle, ni_eqL, ni_addL, ni_Ladd, ni_mulL, ni_Lmul, ni_subL, ni_sub, ni_Lsub, le_t, le_f, lt_t, lt_f, eq_f, il_lt, il_l0, il_g0, il_l1, il_g1, il_l2, il_g2, il_l3, il_g3, il_l4, il_g4, il_l5, il_g5, il_l7, il_g7, il_l8, il_g8, il_l9, il_g9, il_l10, il_g10, il_l15, il_g15, il_l20, il_g20, il_l23, il_g23, il_l24, il_g24, il_l60, il_g60, il_l100, il_g100, il_l999, il_g999, il_l1000, il_g1000, r_in, putR_lt hh, sA_1, sA_s, i1_0, bs_0, bs_1, im_lt, im_ge, im_eq, ni_em, r_desk_i hh c1 hi c2, hai, h9]
        rfl
    · refine same_ro hw (v := some (.int (-100004))) (fun d Q => ?_) (fun d h Q hh => ?_)
      · simp (disch := first | exact c1_i _ | exact c1_r _ | exact c1_n | exact c1_m | omega | assumption | (apply ac_l; omega) | (apply ac_r; omega) | decide | exact Or.inl rfl) only [e_159_0, e_159_0n, e_159_1, e_159_2, e_159_5, e_159_5n, e_159_6, e_159_6n, e_159_7n, e_159_7, e_159_10, e_159_12, e_159_13, e_159_13n, e_159_14, e_159_17, e_159_20, e_159_23, e_159_25, e_159_26, e_159_26n, e_159_27, e_159_28, e_159_31, e_159_32, e_159_33, e_159_36, e_159_37, Option.toList_some, Option.toList_none, List.cons_append, List.nil_append, catS_cons, catS_nil, cat_int, cat_long, cat_ref, cat_null, c1_i, c1_r, c1_n, c1_m, true_and, and_true, and_self, putR_1, putR_u, eq_self, Nat.reduceLT, Nat.reduceLeDiff, Nat.reduceAdd, Nat.reduceEqDiff, vk_i, vk_l, vk_r, vk_n, vk_0, vk_1, if_true, if_false, not_true_eq_false, not_false_eq_true, false_and, and_false, ne_eq, true_or, or_true, ite_not, reduceCtorEq, putX_1, putX_u, putX_hi, hset_Xhi, px_5, xf_5_0, xf_5_1, xI_5_1, xf_5_2, xR_0, xf_5_3, xI_5_3, xf_5_4, xI_5_4, xf_5_5, xf_5_6, xI_5_6, xf_5_7, xf_5_8, xf_5_9, xf_5_10, xf_5_11, xf_5_12, xf_5_13, xf_5_14, xf_5_15, xI_5_15, px_6, xA_6, px_18, xA_18, px_19, xf_19_0, xI_19_0, xf_19_1, xR_1, xf_19_2, xI_19_2, px_20, xf_20_0, xI_20_0, xf_20_1, xR_2, xf_20_2, xI_20_2, px_21, xf_21_0, xI_21_0, xf_21_1, xR_3, xf_21_2, xI_21_2, px_22, xf_22_0, xI_22_0, xf_22_1, xR_4, xf_22_2, xI_22_2, px_23, xf_23_0, xI_23_0, xf_23_1, xR_5, xf_23_2, xI_23_2, px_24, xf_24_0, xI_24_0, xf_24_1, xR_6, xf_24_2, xI_24_2, px_25, xf_25_0, xI_25_0, xf_25_1, xI_25_1, xf_25_2, xf_25_3, xI_25_3, xf_25_4, xf_25_5, xf_25_6, px_26, xA_26, px_27, px_28, xA_28, px_29, xA_29, px_30, xA_30, px_31, xA_31, px_32, xA_32, px_33, xA_33, px_34, xA_34, px_35, xA_35, px_36, xA_36, px_37, xA_37, px_38, xA_38, px_39, xA_39, px_40, xA_40, px_41, xA_41, px_42, xA_42, px_43, xA_43, px_44, xA_44, px_45, xA_45, px_46, xA_46, px_47, xA_47, px_48, xA_48, px_49, xA_49, px_50, xA_50, px_51, xA_51, px_52, xA_52, px_53, xA_53, px_54, xA_54, px_55, xA_55, px_56, xA_56, px_57, xA_57, px_58, xA_58, px_59, xA_59, px_60, xA_60, px_61, xA_61, px_62, xA_62, px_63, xA_63, px_64, xA_64, px_65, xA_65, px_66, xA_66, px_67, xA_67, px_68, xA_68, px_69, xA_69, px_70, xf_70_0, xI_70_0, xf_70_1, xI_70_1, xf_70_2, xI_70_2, xf_70_3, xf_70_4, px_71, xA_71, px_72, xA_72, ni_ixL, ni_clL, ni_add, ni_mul, ni_lt, ni_le, ni_eq, ni_clamp, ni_ix, ni_lt0, ni_0le, ni_ltL, ni_Llt, ni_leL, ni_Lle, ni_eqL, ni_addL, ni_Ladd, ni_mulL, ni_Lmul, ni_subL, ni_sub, ni_Lsub, le_t, le_f, lt_t, lt_f, eq_f, il_lt, il_l0, il_g0, il_l1, il_g1, il_l2, il_g2, il_l3, il_g3, il_l4, il_g4, il_l5, il_g5, il_l7, il_g7, il_l8, il_g8, il_l9, il_g9, il_l10, il_g10, il_l15, il_g15, il_l20, il_g20, il_l23, il_g23, il_l24, il_g24, il_l60, il_g60, il_l100, il_g100, il_l999, il_g999, il_l1000, il_g1000, putR_lo, hset_lo, putR_lt hh, rd_hi, wr_hi, hs_1, hs_s, hs_o, uv_s, uv_o, pv_0, pv_n, i1_0, bs_0, bs_1, im_lt, im_ge, im_eq, ni_em, x_desk_i hw hi, t, q1]
      · have : a = 200 := by omega
        simp (disch := first | exact c1_i _ | exact c1_r _ | exact c1_n | exact c1_m | omega | assumption | (apply ac_l; omega) | (apply ac_r; omega) | decide | exact Or.inl rfl) only [e_280_0, e_280_0n, e_280_1, e_280_2, e_280_5, e_280_8, e_280_11, e_280_12, e_280_12n, e_280_13, e_280_16, e_280_17, e_280_18, e_280_21, e_280_24, e_280_26, e_280_27, e_280_27n, e_280_28, e_280_31, e_280_32, e_280_33, e_280_34, e_280_35, e_280_36, e_280_37, e_280_38, Option.toList_some, Option.toList_none, List.cons_append, List.nil_append, catS_cons, catS_nil, cat_int, cat_long, cat_ref, cat_null, c1_i, c1_r, c1_n, c1_m, true_and, and_true, and_self, putR_1, putR_u, eq_self, Nat.reduceLT, Nat.reduceLeDiff, Nat.reduceAdd, Nat.reduceEqDiff, vk_i, vk_l, vk_r, vk_n, vk_0, vk_1, if_true, if_false, not_true_eq_false, not_false_eq_true, false_and, and_false, ne_eq, true_or, or_true, ite_not, reduceCtorEq, pr_73, pr_74, pr_75, pr_76, pr_77, pr_78, pr_79, pr_80, pr_81, pr_82, pr_83, pr_84, pr_85, pr_86, pr_87, pr_88, pr_89, pr_90, pr_91, pr_92, pr_93, pr_94, pr_95, pr_96, pr_97, pr_98, pr_99, pr_100, pr_101, pr_102, pr_103, pr_104, pr_105, pr_106, pr_107, pr_108, pr_109, pr_110, pr_111, pr_112, pr_113, pr_114, pr_115, pr_116, pr_117, pr_118, pr_119, pr_120, pr_121, pr_122, pr_123, pr_124, pr_125, pr_126, pr_127, pr_128, pr_129, pr_130, pr_131, pr_132, pr_133, pr_134, pr_135, pr_136, pr_137, pr_138, pr_139, pr_140, pr_141, pr_142, pr_143, pr_144, pr_145, rf_0, rf_1, hI_1, rf_2, hI_2, rf_3, hI_3, rf_4, hI_4, rf_5, hI_5, rf_6, hI_6, rf_7, hI_7, rf_8, rf_9, rf_10, rf_11, hI_11, rf_12, rf_13, rf_14, rf_15, rf_16, hI_16, rf_17, rf_18, rf_19, rf_20, rf_21, rf_22, rf_23, hI_23, rf_24, rf_25, rf_26, rf_27, rf_28, hI_28, rf_29, rf_30, hI_30, rf_31, rf_32, hI_32, rf_33, hI_33, rf_34, rf_35, rf_36, rf_37, rf_38, rf_39, rf_40, rf_41, hI_41, rf_42, rf_43, rf_44, rf_45, rf_46, rf_47, rf_48, rf_49, rf_50, hI_50, rf_51, rf_52, rf_53, rf_54, rf_55, rf_56, rf_57, hI_57, rf_58, rf_59, rf_60, rf_61, rf_62, rf_63, rf_64, rf_65, rf_66, rf_67, rf_68, rf_69, rf_70, rf_71, rf_72, rf_73, rf_74, rf_75, hI_75, rf_76, rf_77, rf_78, hI_78, rf_79, rf_80, rf_81, hI_81, rf_82, hI_82, rf_83, rf_84, hI_84, rf_85, rf_86, rf_87, hI_87, rf_88, hI_88, rf_89, hI_89, rf_90, hI_90, rf_91, rf_92, rf_93, rf_94, hI_94, rf_95, hI_95, rf_96, rf_97, rf_98, rf_99, rf_100, hset_W, hA_74, hL_75, hA_76, hL_77, hA_78, hL_79, hA_80, hL_81, hA_82, hL_83, hA_84, hA_85, hA_86, hL_87, hA_88, hA_89, hA_90, hA_91, hA_92, hA_93, hA_94, hA_95, hA_96, hA_97, hA_98, hA_99, hA_100, hA_101, hA_102, hA_103, hA_104, hA_105, hL_106, hA_107, hA_108, hA_109, hA_110, hA_111, hA_112, hA_113, hA_114, hA_115, hA_116, hA_117, hA_118, hA_119, hA_120, hA_121, hA_122, hA_123, hA_124, hA_125, hA_126, hA_127, hA_128, hA_129, hA_130, hA_131, hA_132, hA_133, hA_134, hA_135, hA_136, hA_137, hA_138, hA_139, hA_140, hA_141, hA_142, hA_143, hA_144, hA_145, ni_ixL, ni_clL, ni_add, ni_mul, ni_lt, ni_le, ni_eq, ni_clamp, ni_ix, ni_lt0, ni_0le, ni_ltL, ni_Llt, ni_leL, ni_Lle, ni_eqL, ni_addL, ni_Ladd, ni_mulL, ni_Lmul, ni_subL, ni_sub, ni_Lsub, le_t, le_f, lt_t, lt_f, eq_f, il_lt, il_l0, il_g0, il_l1, il_g1, il_l2, il_g2, il_l3, il_g3, il_l4, il_g4, il_l5, il_g5, il_l7, il_g7, il_l8, il_g8, il_l9, il_g9, il_l10, il_g10, il_l15, il_g15, il_l20, il_g20, il_l23, il_g23, il_l24, il_g24, il_l60, il_g60, il_l100, il_g100, il_l999, il_g999, il_l1000, il_g1000, r_in, putR_lt hh, sA_1, sA_s, i1_0, bs_0, bs_1, im_lt, im_ge, im_eq, ni_em, r_desk_i hh c1 hi c2, hai, eq_true this]
  · refine same_ro hw (v := some (.int (-100001))) (fun d Q => ?_) (fun d h Q hh => ?_)
    · simp (disch := first | exact c1_i _ | exact c1_r _ | exact c1_n | exact c1_m | omega | assumption | (apply ac_l; omega) | (apply ac_r; omega) | decide | exact Or.inl rfl) only [e_159_0, e_159_0n, e_159_1, e_159_2, e_159_5, e_159_5n, e_159_6, e_159_6n, e_159_7n, e_159_7, e_159_10, e_159_12, e_159_13, e_159_13n, e_159_14, e_159_17, e_159_20, e_159_23, e_159_25, e_159_26, e_159_26n, e_159_27, e_159_28, e_159_31, e_159_32, e_159_33, e_159_36, e_159_37, Option.toList_some, Option.toList_none, List.cons_append, List.nil_append, catS_cons, catS_nil, cat_int, cat_long, cat_ref, cat_null, c1_i, c1_r, c1_n, c1_m, true_and, and_true, and_self, putR_1, putR_u, eq_self, Nat.reduceLT, Nat.reduceLeDiff, Nat.reduceAdd, Nat.reduceEqDiff, vk_i, vk_l, vk_r, vk_n, vk_0, vk_1, if_true, if_false, not_true_eq_false, not_false_eq_true, false_and, and_false, ne_eq, true_or, or_true, ite_not, reduceCtorEq, putX_1, putX_u, putX_hi, hset_Xhi, px_5, xf_5_0, xf_5_1, xI_5_1, xf_5_2, xR_0, xf_5_3, xI_5_3, xf_5_4, xI_5_4, xf_5_5, xf_5_6, xI_5_6, xf_5_7, xf_5_8, xf_5_9, xf_5_10, xf_5_11, xf_5_12, xf_5_13, xf_5_14, xf_5_15, xI_5_15, px_6, xA_6, px_18, xA_18, px_19, xf_19_0, xI_19_0, xf_19_1, xR_1, xf_19_2, xI_19_2, px_20, xf_20_0, xI_20_0, xf_20_1, xR_2, xf_20_2, xI_20_2, px_21, xf_21_0, xI_21_0, xf_21_1, xR_3, xf_21_2, xI_21_2, px_22, xf_22_0, xI_22_0, xf_22_1, xR_4, xf_22_2, xI_22_2, px_23, xf_23_0, xI_23_0, xf_23_1, xR_5, xf_23_2, xI_23_2, px_24, xf_24_0, xI_24_0, xf_24_1, xR_6, xf_24_2, xI_24_2, px_25, xf_25_0, xI_25_0, xf_25_1, xI_25_1, xf_25_2, xf_25_3, xI_25_3, xf_25_4, xf_25_5, xf_25_6, px_26, xA_26, px_27, px_28, xA_28, px_29, xA_29, px_30, xA_30, px_31, xA_31, px_32, xA_32, px_33, xA_33, px_34, xA_34, px_35, xA_35, px_36, xA_36, px_37, xA_37, px_38, xA_38, px_39, xA_39, px_40, xA_40, px_41, xA_41, px_42, xA_42, px_43, xA_43, px_44, xA_44, px_45, xA_45, px_46, xA_46, px_47, xA_47, px_48, xA_48, px_49, xA_49, px_50, xA_50, px_51, xA_51, px_52, xA_52, px_53, xA_53, px_54, xA_54, px_55, xA_55, px_56, xA_56, px_57, xA_57, px_58, xA_58, px_59, xA_59, px_60, xA_60, px_61, xA_61, px_62, xA_62, px_63, xA_63, px_64, xA_64, px_65, xA_65, px_66, xA_66, px_67, xA_67, px_68, xA_68, px_69, xA_69, px_70, xf_70_0, xI_70_0, xf_70_1, xI_70_1, xf_70_2, xI_70_2, xf_70_3, xf_70_4, px_71, xA_71, px_72, xA_72, ni_ixL, ni_clL, ni_add, ni_mul, ni_lt, ni_le, ni_eq, ni_clamp, ni_ix, ni_lt0, ni_0le, ni_ltL, ni_Llt, ni_leL, ni_Lle, ni_eqL, ni_addL, ni_Ladd, ni_mulL, ni_Lmul, ni_subL, ni_sub, ni_Lsub, le_t, le_f, lt_t, lt_f, eq_f, il_lt, il_l0, il_g0, il_l1, il_g1, il_l2, il_g2, il_l3, il_g3, il_l4, il_g4, il_l5, il_g5, il_l7, il_g7, il_l8, il_g8, il_l9, il_g9, il_l10, il_g10, il_l15, il_g15, il_l20, il_g20, il_l23, il_g23, il_l24, il_g24, il_l60, il_g60, il_l100, il_g100, il_l999, il_g999, il_l1000, il_g1000, putR_lo, hset_lo, putR_lt hh, rd_hi, wr_hi, hs_1, hs_s, hs_o, uv_s, uv_o, pv_0, pv_n, i1_0, bs_0, bs_1, im_lt, im_ge, im_eq, ni_em, x_desk_o hw hn]
    · simp (disch := first | exact c1_i _ | exact c1_r _ | exact c1_n | exact c1_m | omega | assumption | (apply ac_l; omega) | (apply ac_r; omega) | decide | exact Or.inl rfl) only [e_280_0, e_280_0n, e_280_1, e_280_2, e_280_5, e_280_8, e_280_11, e_280_12, e_280_12n, e_280_13, e_280_16, e_280_17, e_280_18, e_280_21, e_280_24, e_280_26, e_280_27, e_280_27n, e_280_28, e_280_31, e_280_32, e_280_33, e_280_34, e_280_35, e_280_36, e_280_37, e_280_38, Option.toList_some, Option.toList_none, List.cons_append, List.nil_append, catS_cons, catS_nil, cat_int, cat_long, cat_ref, cat_null, c1_i, c1_r, c1_n, c1_m, true_and, and_true, and_self, putR_1, putR_u, eq_self, Nat.reduceLT, Nat.reduceLeDiff, Nat.reduceAdd, Nat.reduceEqDiff, vk_i, vk_l, vk_r, vk_n, vk_0, vk_1, if_true, if_false, not_true_eq_false, not_false_eq_true, false_and, and_false, ne_eq, true_or, or_true, ite_not, reduceCtorEq, pr_73, pr_74, pr_75, pr_76, pr_77, pr_78, pr_79, pr_80, pr_81, pr_82, pr_83, pr_84, pr_85, pr_86, pr_87, pr_88, pr_89, pr_90, pr_91, pr_92, pr_93, pr_94, pr_95, pr_96, pr_97, pr_98, pr_99, pr_100, pr_101, pr_102, pr_103, pr_104, pr_105, pr_106, pr_107, pr_108, pr_109, pr_110, pr_111, pr_112, pr_113, pr_114, pr_115, pr_116, pr_117, pr_118, pr_119, pr_120, pr_121, pr_122, pr_123, pr_124, pr_125, pr_126, pr_127, pr_128, pr_129, pr_130, pr_131, pr_132, pr_133, pr_134, pr_135, pr_136, pr_137, pr_138, pr_139, pr_140, pr_141, pr_142, pr_143, pr_144, pr_145, rf_0, rf_1, hI_1, rf_2, hI_2, rf_3, hI_3, rf_4, hI_4, rf_5, hI_5, rf_6, hI_6, rf_7, hI_7, rf_8, rf_9, rf_10, rf_11, hI_11, rf_12, rf_13, rf_14, rf_15, rf_16, hI_16, rf_17, rf_18, rf_19, rf_20, rf_21, rf_22, rf_23, hI_23, rf_24, rf_25, rf_26, rf_27, rf_28, hI_28, rf_29, rf_30, hI_30, rf_31, rf_32, hI_32, rf_33, hI_33, rf_34, rf_35, rf_36, rf_37, rf_38, rf_39, rf_40, rf_41, hI_41, rf_42, rf_43, rf_44, rf_45, rf_46, rf_47, rf_48, rf_49, rf_50, hI_50, rf_51, rf_52, rf_53, rf_54, rf_55, rf_56, rf_57, hI_57, rf_58, rf_59, rf_60, rf_61, rf_62, rf_63, rf_64, rf_65, rf_66, rf_67, rf_68, rf_69, rf_70, rf_71, rf_72, rf_73, rf_74, rf_75, hI_75, rf_76, rf_77, rf_78, hI_78, rf_79, rf_80, rf_81, hI_81, rf_82, hI_82, rf_83, rf_84, hI_84, rf_85, rf_86, rf_87, hI_87, rf_88, hI_88, rf_89, hI_89, rf_90, hI_90, rf_91, rf_92, rf_93, rf_94, hI_94, rf_95, hI_95, rf_96, rf_97, rf_98, rf_99, rf_100, hset_W, hA_74, hL_75, hA_76, hL_77, hA_78, hL_79, hA_80, hL_81, hA_82, hL_83, hA_84, hA_85, hA_86, hL_87, hA_88, hA_89, hA_90, hA_91, hA_92, hA_93, hA_94, hA_95, hA_96, hA_97, hA_98, hA_99, hA_100, hA_101, hA_102, hA_103, hA_104, hA_105, hL_106, hA_107, hA_108, hA_109, hA_110, hA_111, hA_112, hA_113, hA_114, hA_115, hA_116, hA_117, hA_118, hA_119, hA_120, hA_121, hA_122, hA_123, hA_124, hA_125, hA_126, hA_127, hA_128, hA_129, hA_130, hA_131, hA_132, hA_133, hA_134, hA_135, hA_136, hA_137, hA_138, hA_139, hA_140, hA_141, hA_142, hA_143, hA_144, hA_145, ni_ixL, ni_clL, ni_add, ni_mul, ni_lt, ni_le, ni_eq, ni_clamp, ni_ix, ni_lt0, ni_0le, ni_ltL, ni_Llt, ni_leL, ni_Lle, ni_eqL, ni_addL, ni_Ladd, ni_mulL, ni_Lmul, ni_subL, ni_sub, ni_Lsub, le_t, le_f, lt_t, lt_f, eq_f, il_lt, il_l0, il_g0, il_l1, il_g1, il_l2, il_g2, il_l3, il_g3, il_l4, il_g4, il_l5, il_g5, il_l7, il_g7, il_l8, il_g8, il_l9, il_g9, il_l10, il_g10, il_l15, il_g15, il_l20, il_g20, il_l23, il_g23, il_l24, il_g24, il_l60, il_g60, il_l100, il_g100, il_l999, il_g999, il_l1000, il_g1000, r_in, putR_lt hh, sA_1, sA_s, i1_0, bs_0, bs_1, im_lt, im_ge, im_eq, ni_em, r_desk_o hh c1 hn c2]
end
