/-! what the reference has, against what the class has so far -/
section
variable {K : Nat → pcell} {tb : Nat} {g g' g1 g2 g0 : gS} {r r' r0 r1 r2 s' v : rS} {x x' x1 x2 xb : xS} {h h' h1 h2 h0 : pheap} {a n k m i j c p q d A o b kp B L T rc ce no n0 Dn cl : Nat} {Q : Option Value → pheap → Prop} {e nt dry s z c0 s0 D : Int32} {f F fs : Nat → Int32} {ss : List Int32} {l : List Nat} {w : Int64} {os : Nat → Nat} {P G : Nat → Prop}
def gvF (r : rS) (Dn o : Nat) : Int32 := if (r.2.2.1 100) o = nI Dn then (r.2.2.1 95) (24 * Dn + o) else (r.2.2.1 93) ((r.2.2.1 100) o).toNatClampNeg
def REL (P G : Nat → Prop) (Dn : Nat) (r v : rS) : Prop :=
  ((∀ k, k ≠ 81 → k ≠ 82 → k ≠ 84 → k ≠ 87 → k ≠ 78 → k ≠ 88 → k ≠ 89 → k ≠ 90 → r.1 k = v.1 k) ∧ r.2.1 = v.2.1 ∧ (∀ a, a ≠ 134 → a ≠ 135 → a ≠ 136 → a ≠ 137 → a ≠ 133 → a ≠ 138 → a ≠ 145 → a ≠ 131 → a ≠ 132 → a ≠ 88 → a ≠ 89 → a ≠ 95 → a ≠ 118 → r.2.2.1 a = v.2.2.1 a) ∧ (∀ a, a ≠ 87 → r.2.2.2 a = v.2.2.2 a) ∧ (∀ j, j < 60 → (r.2.2.1 131) j = v.2.2.1 131 j) ∧ ∀ k, k < 3600 → (r.2.2.1 132) k = v.2.2.1 132 k) ∧
  (∀ c, kc c → ¬ P c → (r.2.2.2 87) c = v.2.2.2 87 c ∧ (r.2.2.1 88) c = v.2.2.1 88 c ∧ ∀ k, k < 16 → (r.2.2.1 89) (16 * c + k) = v.2.2.1 89 (16 * c + k)) ∧
  (∀ o, G o → o < 24 ∧ (r.2.2.1 95) (24 * Dn + o) = gvF v Dn o) ∧ ∀ i, (∀ o, G o → i ≠ 24 * Dn + o) → (r.2.2.1 95) i = v.2.2.1 95 i
theorem rel_0 (hs : SC r v) : REL (fun _ => False) (fun _ => False) Dn r v := ⟨⟨hs.1, hs.2.1, fun a q0 q1 q2 q3 q4 q5 q6 q7 q8 q9 q10 _ _ => hs.2.2.1 a q0 q1 q2 q3 q4 q5 q6 q7 q8 q9 q10, hs.2.2.2.1, hs.2.2.2.2.1, hs.2.2.2.2.2.1⟩, fun c hc _ => hs.2.2.2.2.2.2 c hc, fun _ y => y.elim, fun i _ => by rw [sc_row hs 95 (by decide)]⟩
theorem rel_sc (hr : REL P G Dn r v) (hP : ∀ c, kc c → ¬ P c) (hst : (r.2.2.1 118) = v.2.2.1 118) : SC r (sR v 95 ((r.2.2.1 95))) := by
  obtain ⟨⟨a1, a2, a3, a4, a5, a6⟩, b, c1, c2⟩ := hr
  refine ⟨a1, a2, fun a q0 q1 q2 q3 q4 q5 q6 q7 q8 q9 q10 => ?_, a4, a5, a6, fun c hc => b c hc (hP c hc)⟩
  by_cases e : a = 95
  · subst e
    exact (sR_s _ _ _).symm
  · rw [sR_n _ _ e]
    by_cases e2 : a = 118
    · subst e2
      exact hst
    · exact a3 a q0 q1 q2 q3 q4 q5 q6 q7 q8 q9 q10 e e2
/-- after an item without a node -/
theorem rel_it (hr : REL P G Dn r v) {T A q : Nat} {Lt Rf : Nat → Int32} (h1 : ∀ y, (y < 16 * ce ∨ 16 * ce + 16 ≤ y) → Lt y = (r.2.2.1 89) y) (hno : no ≤ 24) (h3 : (Rf = (r.2.2.1 95) ∧ (¬ 20 ≤ s ∨ w = -1)) ∨ ∃ o, o < no ∧ 20 ≤ s ∧ s = nI (20 + os o) ∧ w = (nI o).toInt64 ∧ Rf = rfF r Dn o) : REL (fun c => P c ∨ c = ce) (fun o => G o ∨ (o < no ∧ 20 ≤ s ∧ w = (nI o).toInt64)) Dn (itR r T A q ce w z Lt Rf) v := by
  obtain ⟨⟨a1, a2, a3, a4, a5, a6⟩, b, c1, c2⟩ := hr
  have hod : (r.2.2.1 100) = v.2.2.1 100 := a3 _ (by decide) (by decide) (by decide) (by decide) (by decide) (by decide) (by decide) (by decide) (by decide) (by decide) (by decide) (by decide) (by decide)
  have hag : (r.2.2.1 93) = v.2.2.1 93 := a3 _ (by decide) (by decide) (by decide) (by decide) (by decide) (by decide) (by decide) (by decide) (by decide) (by decide) (by decide) (by decide) (by decide)
  have hun : ∀ o o', o < 24 → o' < no → w = (nI o).toInt64 → w = (nI o').toInt64 → o = o' := fun o o' ho ho' y1 y2 => by
    rw [y1, il_eq, ni_eq (by omega) (by omega)] at y2
    exact y2
  have hw1 : ∀ o, o < 24 → w = (nI o).toInt64 → w ≠ -1 := fun o ho y1 y2 => by
    rw [y1] at y2
    have := congrArg Int64.toInt32 y2
    rw [il_32] at this
    have e : (-1 : Int64).toInt32 = -1 := by decide
    rw [e] at this
    have y := congrArg Int32.toInt this
    rw [ni_int (by omega)] at y
    have e2 : (-1 : Int32).toInt = -1 := by decide
    omega
  have eR : (itR r T A q ce w z Lt Rf).2.2.1 95 = Rf := rfl
  refine ⟨⟨fun k q0 q1 q2 q3 q4 q5 q6 q7 => ?_, a2, fun a q0 q1 q2 q3 q4 q5 q6 q7 q8 q9 q10 q11 q12 => ?_, fun a ha => ?_, a5, a6⟩, fun c hc hP => ?_, fun o ho => ?_, fun i hi => ?_⟩
  · refine Eq.trans ?_ (a1 k q0 q1 q2 q3 q4 q5 q6 q7)
    show (sI (sI r 87 (nI T)) 88 (nI (A + q))).1 k = _
    rw [sI_n _ _ q5, sI_n _ _ q3]
  · refine Eq.trans ?_ (a3 a q0 q1 q2 q3 q4 q5 q6 q7 q8 q9 q10 q11 q12)
    unfold itR
    rw [sA_a _ _ _ q9]
    show (sR (sR (raT (tdR r T) (A + q)) 89 Lt) 95 Rf).2.2.1 a = _
    rw [sR_n _ _ q11, sR_n _ _ q10]
    rfl
  · refine Eq.trans ?_ (a4 a ha)
    show (upN r.2.2.2 87 (upN ((r.2.2.2 87)) ce w)) a = _
    rw [upN_n _ _ ha]
  · have hne : c ≠ ce := fun y => hP (Or.inr y)
    obtain ⟨y1, y2, y3⟩ := b c hc (fun y => hP (Or.inl y))
    refine ⟨?_, ?_, fun k hk => ?_⟩
    · refine Eq.trans ?_ y1
      show upN ((r.2.2.2 87)) ce w c = _
      rw [upN_n _ _ hne]
    · refine Eq.trans ?_ y2
      show upN ((r.2.2.1 88)) ce z c = _
      rw [upN_n _ _ hne]
    · refine Eq.trans ?_ (y3 k hk)
      show Lt (16 * c + k) = _
      exact h1 _ (by omega)
  · rw [eR]
    rcases h3 with ⟨z1, z2⟩ | ⟨o', z1, z2, z3, z4, z5⟩
    · rcases ho with ho | ⟨ho1, ho2, ho3⟩
      · rw [z1]; exact c1 o ho
      · rcases z2 with z2 | z2
        · exact absurd ho2 z2
        · exact absurd z2 (hw1 o (by omega) ho3)
    · by_cases e : o = o'
      · subst e
        refine ⟨by omega, ?_⟩
        rw [z5]
        unfold rfF gvF
        rw [hod, hag]
        by_cases y : v.2.2.1 100 o = nI Dn
        · rw [if_pos y, if_pos y]
          by_cases yg : G o
          · have := (c1 o yg).2
            unfold gvF at this
            rw [if_pos y] at this
            exact this
          · exact c2 _ (fun o' ho' ye => yg (by
              have := (c1 o' ho').1
              rw [show o = o' by omega]; exact ho'))
        · rw [if_neg y, if_neg y, upN_s]
      · rcases ho with ho | ⟨ho1, ho2, ho3⟩
        · obtain ⟨y1, y2⟩ := c1 o ho
          refine ⟨y1, ?_⟩
          rw [z5, ← y2]
          unfold rfF
          by_cases y : (r.2.2.1 100) o' = nI Dn
          · rw [if_pos y]
          · rw [if_neg y, upN_n _ _ (by omega)]
        · exact absurd (hun o o' (by omega) z1 ho3 z4) e
  · rw [eR]
    have hi' := c2 i (fun o ho => hi o (Or.inl ho))
    rcases h3 with ⟨z1, z2⟩ | ⟨o', z1, z2, z3, z4, z5⟩
    · rw [z1]; exact hi'
    · have hn := hi o' (Or.inr ⟨z1, z2, z4⟩)
      rw [z5, ← hi']
      unfold rfF
      by_cases y : (r.2.2.1 100) o' = nI Dn
      · rw [if_pos y]
      · rw [if_neg y, upN_n _ _ hn]
end
