section
variable {K : Nat → pcell} {tb : Nat} {g g' : gS} {r r' r0 rW rb r2 : rS} {x x' : xS} {h h' : pheap} {d : Nat} {Q : Option Value → pheap → Prop} {B : Nat → Value} {R N f q i p n f0 a L A1 A2 al mo o k ρ : Nat} {fa c e b c0 u t gd m rm tl tl' s : Int32} {w v w0 nm n0 : Int64} {T : Nat → Int32} {F : Nat → Int64} {P : pB}
/-- a sort is at hand, or not -/
theorem pt_sort (hz : PT K tb g rW x R N T A1 A2 B h r f q c t w) (hrb : RB r rb) (hb : BKc h R r2 P) (e2 : r2.2.2.2 = r.2.2.2) (hk : ((r.1 16) = nI (P.1 1) ∧ P.1 1 ≤ 6) ∧ (r.1 23) = nI (P.1 2) ∧ P.1 2 ≤ 8) : (∃ s, isSrt (P.1 1) (P.1 2) s ∧ ¬ s = -1 ∧ (c = 2 ∨ (7 ≤ c ∧ c ≤ 11)) ∧ (∀ d r0 Q, Go (d + 3) 27 0 [.ref R] [] (putR r0 (putX x h)) Q = Q (some (.int s)) (putR r0 (putX x h))) ∧ (∀ r', (∀ d (H : pheap) Q, 146 ≤ H.1 → Go (d + 3) 175 0 [.ref 73, mk0, mk0] [] (putR r H) Q = Q none (putR r' H)) → ∀ d (H : pheap) Q, 146 ≤ H.1 → Go (d + 4) 188 0 [.ref 73, mk0, mk0, mk0, mk0] [] (putR r H) Q = Q (some (.int s)) (putR r' H))) ∨ (∃ n, (c = 2 → n = 5) ∧ (¬ c = 2 → ¬ (7 ≤ c ∧ c ≤ 11) ∧ n = (if c = 1 then 1 else 2)) ∧ PQ K tb g rW x R N T A1 A2 rb (hset h R 1 (.int (nI n))) (fqR r (nI n)) ∧ ¬ (fqR r (nI n)).1 4 = 0 ∧ (∀ d r0 Q, Go (d + 3) 27 0 [.ref R] [] (putR r0 (putX x h)) Q = Q (some (.int (-1))) (putR r0 (putX x h))) ∧ (∀ d r0 Q, Go (d + 3) 29 0 [.ref R] [] (putR r0 (putX x h)) Q = Q (some (.int 0)) (putR r0 (putX x (hset h R 1 (.int (nI n)))))) ∧ (∃ s', ∀ d (H : pheap) Q, 146 ≤ H.1 → Go (d + 4) 188 0 [.ref 73, mk0, mk0, mk0, mk0] [] (putR r H) Q = Q (some (.int s')) (putR (fqR r (nI n)) H))) := by
  obtain ⟨hh, hR, h6, h7, h0, -, h12⟩ := pt_R hz
  obtain ⟨t1, t2⟩ : (r.1 7) = t ∧ (r.1 4) = 0 := ⟨hz.2.2.2.1.2.2.2.2.1, hz.2.2.2.1.2.2.2.2.2.1⟩
  have t3 := hz.2.2.2.2.1
  have t4 := hz.2.2.2.2.2
  have hR' : 146 ≤ R ∧ R + 12 < h.1 ∧ (h.2.2 R).1 = 2 := ⟨hR.1, h12, hR.2.2⟩
  have hk' := hk
  obtain ⟨⟨k4, k5⟩, ⟨k6, k7⟩⟩ := hk'
  have esr : ∀ w, srF r2 P w = srF r P w := fun w => by
    unfold srF rcF svF
    rw [e2]
  have x1 := fun d r0 Q => x_sAt (d := d) (r0 := r0) (x := x) (Q := Q) hh hR' h6 h7 h0 hb k5 k7
  rw [esr] at x1
  have heq : saF c (srF r P w) = saF c (srF r P r.2.1) := by
    unfold saF
    by_cases c2 : c = 2
    · rw [t4 ((tr_n t3).mp c2).1]
    · rw [if_neg c2, if_neg c2]
  rw [heq] at x1
  by_cases z : stN c (srF r P r.2.1) = 0
  · have hs := fun r' d (H : pheap) Q (hH : 146 ≤ H.1) => (r_sort (d := d) (r' := r') (Q := Q) hH t1 t2 t3 hk).1 z
    have hne : ¬ saF c (srF r P r.2.1) = -1 := (hs r 0 (146, 0, fun _ => (0, 0, fun _ => .null)) (fun _ _ => True) (by decide)).1
    refine Or.inl ⟨saF c (srF r P r.2.1), srt_sa k5 k7 t3 hne, hne, ?_, x1, fun r' y6 d H Q hH => (hs r' d H Q hH).2 (fun Q => y6 d H Q hH)⟩
    rcases tr_all t3 with ⟨c1, -⟩ | ⟨⟨c1, c2, c7⟩, -⟩ | ⟨c2, -⟩ | ⟨k, kk, ck, -⟩
    · exfalso
      have : stN c (srF r P r.2.1) = 1 := if_pos c1
      omega
    · exfalso
      have : stN c (srF r P r.2.1) = 2 := by
        unfold stN
        rw [if_neg c1, if_neg c2, if_neg c7]
      omega
    · exact Or.inl c2
    · rw [ck]
      exact Or.inr (sk_f k kk).2.2.1
  · have hs := fun d (H : pheap) Q (hH : 146 ≤ H.1) => (r_sort (d := d) (r' := r) (Q := Q) hH t1 t2 t3 hk).2 z
    have hm1 : saF c (srF r P r.2.1) = -1 := (hs 0 (146, 0, fun _ => (0, 0, fun _ => .null)) (fun _ _ => True) (by decide)).1
    have hcc : c = 1 ∨ (¬ c = 1 ∧ ¬ c = 2 ∧ ¬ (7 ≤ c ∧ c ≤ 11)) ∨ c = 2 := by
      rcases tr_all t3 with ⟨c1, -⟩ | ⟨y, -⟩ | ⟨c2, -⟩ | ⟨k, kk, ck, -⟩
      · exact Or.inl c1
      · exact Or.inr (Or.inl y)
      · exact Or.inr (Or.inr c2)
      · exfalso
        obtain ⟨a1, a2, a3, a4, a5, a6, a7, -⟩ := sk_f k kk
        unfold saF at hm1
        rw [ck, if_neg a2, if_pos a3, a4] at hm1
        exact a7 hm1
    have xf := fun d r0 Q => (x_sFlaw (d := d) (r0 := r0) (x := x) (Q := Q) hh hR' h6 hm1 hcc).2
    rw [hm1] at x1
    have h5 : stN c (srF r P r.2.1) ≤ 5 := by
      unfold stN
      split
      · omega
      · split
        · split <;> omega
        · split <;> omega
    refine Or.inr ⟨stN c (srF r P r.2.1), fun c2 => ?_, fun c2 => ?_, pt_bad hz hrb (by omega) h5, ?_, x1, xf, _, fun d H Q hH => (hs d H Q hH).2⟩
    · unfold stN
      unfold saF at hm1
      rw [if_pos c2] at hm1
      rw [if_neg (by rw [c2]; decide), if_pos c2, if_pos hm1]
    · unfold stN
      unfold saF at hm1
      rcases hcc with c1 | ⟨c1, -, c7⟩ | y
      · rw [if_pos c1, if_pos c1]
        exact ⟨by rw [c1]; decide, rfl⟩
      · rw [if_neg c1, if_neg c2, if_neg c7, if_neg c1]
        exact ⟨c7, rfl⟩
      · exact absurd y c2
    · intro y
      have y' : nI (stN c (srF r P r.2.1)) = nI 0 := y
      rw [ni_eq (by omega) (by omega)] at y'
      exact z y'
end
