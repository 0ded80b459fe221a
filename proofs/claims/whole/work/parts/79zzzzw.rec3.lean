section
variable {K : Nat → pcell} {tb : Nat} {g g' : gS} {r r' r0 rW rb : rS} {x x' : xS} {h h' : pheap} {d : Nat} {Q : Option Value → pheap → Prop} {B : Nat → Value} {R N f q i p n f0 a L A1 A2 al mo o k ρ : Nat} {fa c e b c0 u t gd m rm tl tl' s : Int32} {w v w0 nm : Int64} {T : Nat → Int32} {F : Nat → Int64} {P : pB}
/-- the names of the members so far -/
def MB (h : pheap) (R n : Nat) (F : Nat → Int64) : Prop := ∀ k, k < n → (h.2.2 (R + 12)).2.2 k = .long (F k)
theorem srt_sa (h6 : P.1 1 ≤ 6) (h8 : P.1 2 ≤ 8) (t3 : TRel c t r.2.1) (hs : ¬ saF c (srF r P r.2.1) = -1) : isSrt (P.1 1) (P.1 2) (saF c (srF r P r.2.1)) := by
  rcases tr_all t3 with ⟨c1, -⟩ | ⟨⟨c1, c2, c7⟩, -⟩ | ⟨c2, -⟩ | ⟨k, kk, ck, -⟩
  · exfalso
    apply hs
    unfold saF
    rw [if_neg (by rw [c1]; decide), if_neg (by rw [c1]; decide)]
  · exfalso
    apply hs
    unfold saF
    rw [if_neg c2, if_neg c7]
  · have e : saF c (srF r P r.2.1) = srF r P r.2.1 := if_pos c2
    rw [e] at hs ⊢
    rcases sr_c (r := r) (w := r.2.1) h6 h8 with ⟨y, -⟩ | ⟨-, -, y⟩
    · exact absurd y hs
    · exact y
  · obtain ⟨a1, a2, a3, a4, -⟩ := sk_f k kk
    have e : saF c (srF r P r.2.1) = nI k := by
      unfold saF
      rw [ck, if_neg a2, if_pos a3, a4]
    rw [e]
    exact Or.inl ⟨k, kk, rfl⟩
/-- a sort is read, both step on; or not -/
theorem pz_sort (hz : PZ K tb g rW x R N T A1 A2 B rb P h r f q c t w) : ∃ h' r' s, (isSrt (P.1 1) (P.1 2) s ∧ (∃ f' q' c' t' w', PZ K tb g rW x R N T A1 A2 B rb P h' r' f' q' c' t' w' ∧ q ≤ q' ∧ ST h' h r' r R) ∧ ¬ s = -1 ∧ (∀ d r0 Q, Go (d + 3) 27 0 [.ref R] [] (putR r0 (putX x h)) Q = Q (some (.int s)) (putR r0 (putX x h))) ∧ (∀ d r0 Q, Go (d + 3) 13 0 [.ref R] [] (putR r0 (putX x h)) Q = Q none (putR r0 (putX x h'))) ∧ (∀ d (H : pheap) Q, 146 ≤ H.1 → Go (d + 4) 188 0 [.ref 73, mk0, mk0, mk0, mk0] [] (putR r H) Q = Q (some (.int s)) (putR r' H))) ∨ ((PQ K tb g rW x R N T A1 A2 rb h' r' ∧ ¬ (r'.1 4) = 0 ∧ r'.2.2 = r.2.2 ∧ r'.2.1 = r.2.1 ∧ (r'.1 7) = t) ∧ (∀ d r0 Q, Go (d + 3) 27 0 [.ref R] [] (putR r0 (putX x h)) Q = Q (some (.int (-1))) (putR r0 (putX x h))) ∧ (∀ d r0 Q, Go (d + 3) 29 0 [.ref R] [] (putR r0 (putX x h)) Q = Q (some (.int 0)) (putR r0 (putX x h'))) ∧ (∃ s', ∀ d (H : pheap) Q, 146 ≤ H.1 → Go (d + 4) 188 0 [.ref 73, mk0, mk0, mk0, mk0] [] (putR r H) Q = Q (some (.int s')) (putR r' H))) := by
  obtain ⟨hh, hR, h6, h7, h0⟩ := pz_R hz
  obtain ⟨t1, t2, t3, t4⟩ := pz_t hz
  obtain ⟨hR', hb, hr⟩ := pz_b hz
  have hr' := hr
  obtain ⟨⟨k1, k2, k3⟩, ⟨k4, k5⟩, ⟨k6, k7⟩, -⟩ := hr'
  have x1 := fun d r0 Q => x_sAt (d := d) (r0 := r0) (x := x) (Q := Q) hh hR' h6 h7 h0 hb k5 k7
  have heq : saF c (srF r P w) = saF c (srF r P r.2.1) := by
    unfold saF
    by_cases c2 : c = 2
    · rw [t4 ((tr_n t3).mp c2).1]
    · rw [if_neg c2, if_neg c2]
  rw [heq] at x1
  by_cases z : stN c (srF r P r.2.1) = 0
  · obtain ⟨hn, rn, f', q', c', t', w', y1, y2, y3, y4, y5, y6⟩ := pz_next hz
    have hs := fun d (H : pheap) Q (hH : 146 ≤ H.1) => (r_sort (d := d) (r' := rn) (Q := Q) hH t1 t2 t3 ⟨hr.2.1, hr.2.2.1⟩).1 z
    have hne : ¬ saF c (srF r P r.2.1) = -1 := (hs 0 (146, 0, fun _ => (0, 0, fun _ => .null)) (fun _ _ => True) (by decide)).1
    exact ⟨hn, rn, saF c (srF r P r.2.1), Or.inl ⟨srt_sa k5 k7 t3 hne, ⟨f', q', c', t', w', y1, y2, y4⟩, hne, x1, y5, fun d H Q hH => (hs d H Q hH).2 (fun Q => y6 d H Q hH)⟩⟩
  · have hs := fun d (H : pheap) Q (hH : 146 ≤ H.1) => (r_sort (d := d) (r' := r) (Q := Q) hH t1 t2 t3 ⟨hr.2.1, hr.2.2.1⟩).2 z
    have hm1 : saF c (srF r P r.2.1) = -1 := (hs 0 (146, 0, fun _ => (0, 0, fun _ => .null)) (fun _ _ => True) (by decide)).1
    have hcc : c = 1 ∨ (¬ c = 1 ∧ ¬ c = 2 ∧ ¬ (7 ≤ c ∧ c ≤ 11)) ∨ c = 2 := by
      rcases tr_all t3 with ⟨c1, -⟩ | ⟨y, -⟩ | ⟨c2, -⟩ | ⟨k, kk, ck, -⟩
      · exact Or.inl c1
      · exact Or.inr (Or.inl y)
      · exact Or.inr (Or.inr c2)
      · exfalso
        obtain ⟨a1, a2, a3, a4, a5, a6, a7, -⟩ := sk_f k kk
        unfold saF at hm1
        rw [ck, if_neg a2, if_pos a3, a4] at hm1
        exact a7 hm1
    have xf := fun d r0 Q => (x_sFlaw (d := d) (r0 := r0) (x := x) (Q := Q) hh hR' h6 hm1 hcc).2
    rw [hm1] at x1
    have h5 : stN c (srF r P r.2.1) ≤ 5 := by
      unfold stN
      split
      · omega
      · split
        · split <;> omega
        · split <;> omega
    refine ⟨_, fqR r (nI (stN c (srF r P r.2.1))), 0, Or.inr ⟨⟨pz_bad hz (by omega) h5, ?_, rfl, rfl, t1⟩, x1, xf, _, fun d H Q hH => (hs d H Q hH).2⟩⟩
    intro y
    have y' : nI (stN c (srF r P r.2.1)) = nI 0 := y
    rw [ni_eq (by omega) (by omega)] at y'
    exact z y'
end
