section
variable {B of Z m p z : Nat} {gsz gsz' : Nat → Nat} {got got' F : Nat → Int32}
/-- one part more of a message -/
theorem gp_add (hold : gotP B of Z gsz got F) (hB : B = 0 ∨ of = m) (hm : m = nP Z) (hm10 : m ≤ 10) (hp : p < m) (hne : B ||| 2 ^ p ≠ 2 ^ m - 1) (hz : z = cS Z p) (hs : gsz' p = z) (hso : ∀ q, q ≠ p → q < 10 → gsz' q = gsz q) (hg : ∀ k, k < z → got' (24 * p + k) = F (24 * p + k)) (hgo : ∀ q k, q ≠ p → q < 10 → k < 24 → got' (24 * q + k) = got (24 * q + k)) : gotP (B ||| 2 ^ p) m Z gsz' got' F := fun _ => by
  have hlt : B < 2 ^ m := by
    rcases hB with h | h
    · rw [h]; exact Nat.two_pow_pos m
    · by_cases e : B = 0
      · rw [e]; exact Nat.two_pow_pos m
      · rw [← h]; exact (hold e).2.1
  refine ⟨hm, b_lt hlt hp, hne, fun q hq hb => ?_⟩
  by_cases e : q = p
  · subst e
    refine ⟨hs.trans hz, fun k hk => hg k (by rw [hz]; exact hk)⟩
  · rw [b_bt, decide_eq_false (fun z => e z.symm), Bool.or_false] at hb
    have hB0 : B ≠ 0 := fun z => by
      rw [z] at hb
      unfold bt at hb
      rw [Nat.zero_testBit] at hb
      cases hb
    obtain ⟨y1, y2, y3, y4⟩ := hold hB0
    obtain ⟨w1, w2⟩ := y4 q (by rw [y1, ← hm]; exact hq) hb
    refine ⟨(hso q e (by omega)).trans w1, fun k hk => ?_⟩
    have h24 : k < 24 := by unfold cS at hk; omega
    rw [hgo q k e (by omega) h24]
    exact w2 k hk
/-- all parts are there -/
theorem gp_who (hold : gotP B of Z gsz got F) (hB : B = 0 ∨ of = m) (hm : m = nP Z) (hm10 : m ≤ 10) (hp : p < m) (hwh : B ||| 2 ^ p = 2 ^ m - 1) (hz : z = cS Z p) (hs : gsz' p = z) (hso : ∀ q, q ≠ p → q < 10 → gsz' q = gsz q) (hg : ∀ k, k < z → got' (24 * p + k) = F (24 * p + k)) (hgo : ∀ q k, q ≠ p → q < 10 → k < 24 → got' (24 * q + k) = got (24 * q + k)) : (∀ q, q < m → gsz' q = cS Z q) ∧ (∀ i, i < Z → got' i = F i) ∧ 24 * (m - 1) + gsz' (m - 1) = Z := by
  have key : ∀ q, q < m → gsz' q = cS Z q ∧ ∀ k, k < cS Z q → got' (24 * q + k) = F (24 * q + k) := fun q hq => by
    by_cases e : q = p
    · subst e
      exact ⟨hs.trans hz, fun k hk => hg k (by rw [hz]; exact hk)⟩
    · have hb := b_all hwh hq
      rw [b_bt, decide_eq_false (fun z => e z.symm), Bool.or_false] at hb
      have hB0 : B ≠ 0 := fun z => by
        rw [z] at hb
        unfold bt at hb
        rw [Nat.zero_testBit] at hb
        cases hb
      obtain ⟨y1, y2, y3, y4⟩ := hold hB0
      obtain ⟨w1, w2⟩ := y4 q (by rw [y1, ← hm]; exact hq) hb
      refine ⟨(hso q e (by omega)).trans w1, fun k hk => ?_⟩
      have h24 : k < 24 := by unfold cS at hk; omega
      rw [hgo q k e (by omega) h24]
      exact w2 k hk
  refine ⟨fun q hq => (key q hq).1, fun i hi => ?_, ?_⟩
  · have hq : i / 24 < m := by
      rw [hm]
      unfold nP
      rw [if_neg (by omega)]
      omega
    have := (key (i / 24) hq).2 (i % 24) (by unfold cS; omega)
    rw [Nat.div_add_mod] at this
    exact this
  · rw [(key (m - 1) (by omega)).1, hm]
    unfold cS nP
    by_cases h0 : Z = 0
    · rw [if_pos h0]
      omega
    · rw [if_neg h0]
      omega
end
section
variable {K : Nat → pcell} {tb : Nat} {g g' g1 g2 g0 : gS} {r r' r0 r1 r2 s s' : rS} {x x' x1 x2 xb : xS} {h h' h1 h2 h0 : pheap} {a n k m i j c p q d A o b w z kp Z : Nat} {Q : Option Value → pheap → Prop} {e v nt : Int32} {f F : Nat → Int32}
/-- the reference, once a part has come -/
def arR (r : rS) (j p m z B1 : Nat) (f : Nat → Int32) : rS := sR (sA (sA (sA r 143 j (nI m)) 144 j (nI B1)) 142 (10 * j + p) (nI z)) 141 (wrF ((r.2.2.1 141)) f (240 * j + 24 * p) z)
def arG (g : gS) (j p m z B1 : Nat) : gS := icG g (upN ((g.2.2.2.2.2 31)) j B1) (upN ((g.2.2.2.2.2 30)) j m) (upN ((g.2.2.2.2.2 29)) (10 * j + p) z)
/-- the cells of an Incoming, once a part has come -/
theorem kp_2 : (kpH h a p m z kp f).2.2 (a + 2) = ((h.2.2 (a + 2)).1, (h.2.2 (a + 2)).2.1, bwF (h.2.2 (a + 2)).2.2 (p * 24) f z) := by
  unfold kpH
  rw [hs_o _ _ (by omega), hs_o _ _ (by omega), hs_o _ _ (by omega)]
  split
  · rw [hs_o _ _ (by omega), hC_s]
  · rw [hC_s]
theorem kp_1 : (kpH h a p m z kp f).2.2 (a + 1) = ((h.2.2 (a + 1)).1, (h.2.2 (a + 1)).2.1, updV (h.2.2 (a + 1)).2.2 p (.int 1)) := by
  unfold kpH
  rw [hs_o _ _ (by omega), hs_s]
  have : (hset (if p + 1 = m then hset (hC h (a + 2) (bwF (h.2.2 (a + 2)).2.2 (p * 24) f z)) a 4 (.int (nI (p * 24 + z))) else hC h (a + 2) (bwF (h.2.2 (a + 2)).2.2 (p * 24) f z)) a 3 (.int (nI m))).2.2 (a + 1) = h.2.2 (a + 1) := by
    rw [hs_o _ _ (by omega)]
    split
    · rw [hs_o _ _ (by omega), hC_o _ (by omega)]
    · rw [hC_o _ (by omega)]
  rw [this]
theorem kp_0 : (kpH h a p m z kp f).2.2 a = ((h.2.2 a).1, (h.2.2 a).2.1, updV (updV (if p + 1 = m then updV (h.2.2 a).2.2 4 (.int (nI (p * 24 + z))) else (h.2.2 a).2.2) 3 (.int (nI m))) 0 (.int (nI (kp + 1)))) := by
  unfold kpH
  rw [hs_s, hs_o _ _ (by omega), hs_s]
  split
  · rw [hs_s, hC_o _ (by omega)]
  · rw [hC_o _ (by omega)]
theorem kp_o {b : Nat} (h0 : b ≠ a) (h1 : b ≠ a + 1) (h2 : b ≠ a + 2) : (kpH h a p m z kp f).2.2 b = h.2.2 b := by
  unfold kpH
  rw [hs_o _ _ h0, hs_o _ _ h1, hs_o _ _ h0]
  split
  · rw [hs_o _ _ h0, hC_o _ h2]
  · rw [hC_o _ h2]
/-- the class's cells agree, once a part has come -/
theorem sim_arr (hw : World K tb g r x h) (hj : j < 120 ∧ (g.2.2.2.2.2 23) j ≠ 0) (hB : (g.2.2.2.2.2 31) j = 0 ∨ (g.2.2.2.2.2 30) j = m) (hbl : (g.2.2.2.2.2 31) j < 1024) (hp : p < m) (hm : m ≤ 10) (hz : z ≤ 24) (hbit : bt ((g.2.2.2.2.2 31) j) p = false) : Sim K (arG g j p m z ((g.2.2.2.2.2 31) j ||| 2 ^ p)) (arR r j p m z ((g.2.2.2.2.2 31) j ||| 2 ^ p) f) x (kpH h ((g.2.2.2.2.2 23) j) p m z (pcn ((g.2.2.2.2.2 31) j)) f) ∧ (kpH h ((g.2.2.2.2.2 23) j) p m z (pcn ((g.2.2.2.2.2 31) j)) f).1 = h.1 ∧ (kpH h ((g.2.2.2.2.2 23) j) p m z (pcn ((g.2.2.2.2.2 31) j)) f).2.1 = h.2.1 := by
  obtain ⟨a1, a2, t, q0, q1, q2, ⟨u3, q3, q3'⟩, ⟨u4, q4, q4'⟩, q5, q6, q7⟩ := s_inc hw.1 hj
  obtain ⟨b1, b2, b3, b4, b5⟩ := s_ihe hw.1 hj
  obtain ⟨c1, c2, c3, c4, c5, c6⟩ := s_iby hw.1 hj
  have hbs : ∀ (h : pheap), (if p + 1 = m then hset (hC h ((g.2.2.2.2.2 23) j + 2) (bwF (h.2.2 ((g.2.2.2.2.2 23) j + 2)).2.2 (p * 24) f z)) ((g.2.2.2.2.2 23) j) 4 (.int (nI (p * 24 + z))) else hC h ((g.2.2.2.2.2 23) j + 2) (bwF (h.2.2 ((g.2.2.2.2.2 23) j + 2)).2.2 (p * 24) f z)).1 = h.1 := fun h => by split <;> rfl
  have hbu : ∀ (h : pheap), (if p + 1 = m then hset (hC h ((g.2.2.2.2.2 23) j + 2) (bwF (h.2.2 ((g.2.2.2.2.2 23) j + 2)).2.2 (p * 24) f z)) ((g.2.2.2.2.2 23) j) 4 (.int (nI (p * 24 + z))) else hC h ((g.2.2.2.2.2 23) j + 2) (bwF (h.2.2 ((g.2.2.2.2.2 23) j + 2)).2.2 (p * 24) f z)).2.1 = h.2.1 := fun h => by split <;> rfl
  refine ⟨?_, by unfold kpH; rw [hs_1, hs_1, hs_1]; exact hbs h, by unfold kpH; rw [hs_u, hs_u, hs_u]; exact hbu h⟩
  have hn60 := (w_nc hw).2.1
  have hof : ∀ i, i < 120 → (g.2.2.2.2.2 23) i ≠ 0 → (g.2.2.2.2.2 30) i ≤ 10 := fun i hi hic => by
    obtain ⟨w', c', hw', hc', rfl⟩ : ∃ w' c', w' < 2 ∧ c' < 60 ∧ i = 60 * w' + c' := ⟨i / 60, i % 60, by omega, by omega, by omega⟩
    obtain ⟨y1, y2, y3⟩ := (w_way hw).2 c' hc' w' hw'
    by_cases e : c' < (g.1 0 5)
    · exact (y3 e).2.2.2
    · exact absurd (y1 (by omega)).1 hic
  have hsz : ∀ i p, i < 120 → p < 10 → (g.2.2.2.2.2 29) (10 * i + p) ≤ 24 := fun i p hi hp => (hw.2.2.2.1.1 i p hi hp).2
  have hS := op_inc (B := upN ((g.2.2.2.2.2 31)) j ((g.2.2.2.2.2 31) j ||| 2 ^ p)) (O := upN ((g.2.2.2.2.2 30)) j m) (S := upN ((g.2.2.2.2.2 29)) (10 * j + p) z) (G := wrF ((r.2.2.1 141)) f (240 * j + 24 * p) z) (h' := kpH h ((g.2.2.2.2.2 23) j) p m z (pcn ((g.2.2.2.2.2 31) j)) f) hw.1 hj hof hsz (fun i hi => upN_n _ _ hi) (fun i hi => upN_n _ _ hi) (fun i q hi hq => upN_n _ _ (by omega)) (fun i k hi hk => wrF_o _ _ (by omega)) (by unfold kpH; rw [hs_1, hs_1, hs_1]; exact hbs h) (fun b h0 h1 h2 => kp_o h0 h1 h2) ?_ ?_ ?_
  · exact hS
  · rw [kp_0, upN_s, upN_s]
    refine ⟨t, ?_, ?_, ?_, ⟨nI m, ?_, fun _ => rfl⟩, ?_, ?_, ?_, ?_⟩
    · rw [b_pcn _ hbl p (by omega) hbit]
      dsimp only
      rw [uv_s]
    · obtain ⟨u, hu⟩ := q1
      refine ⟨u, ?_⟩
      dsimp only
      rw [uv_o _ _ (by omega), uv_o _ _ (by omega)]
      split
      · rw [uv_o _ _ (by omega)]; exact hu
      · exact hu
    · obtain ⟨u, hu⟩ := q2
      refine ⟨u, ?_⟩
      dsimp only
      rw [uv_o _ _ (by omega), uv_o _ _ (by omega)]
      split
      · rw [uv_o _ _ (by omega)]; exact hu
      · exact hu
    · dsimp only
      rw [uv_o _ _ (by omega), uv_s]
    · by_cases e : p + 1 = m
      · refine ⟨nI (p * 24 + z), ?_, fun _ => ?_⟩
        · dsimp only
          rw [uv_o _ _ (by omega), uv_o _ _ (by omega), if_pos e, uv_s]
        · have : upN ((g.2.2.2.2.2 29)) (10 * j + p) z (10 * j + (m - 1)) = z := by rw [show m - 1 = p by omega, upN_s]
          show nI (p * 24 + z) = nI (24 * (m - 1) + upN ((g.2.2.2.2.2 29)) (10 * j + p) z (10 * j + (m - 1)))
          rw [this, show m - 1 = p by omega, Nat.mul_comm]
      · refine ⟨u4, ?_, fun hb => ?_⟩
        · dsimp only
          rw [uv_o _ _ (by omega), uv_o _ _ (by omega), if_neg e]
          exact q4
        · rw [b_bt, decide_eq_false (fun y => e (by omega)), Bool.or_false] at hb
          have hB0 : (g.2.2.2.2.2 31) j ≠ 0 := fun y => by
            rw [y] at hb
            unfold bt at hb
            rw [Nat.zero_testBit] at hb
            cases hb
          have hom := hB.resolve_left hB0
          rw [hom] at q4'
          rw [q4' hb]
          show nI (24 * (m - 1) + (g.2.2.2.2.2 29) (10 * j + (m - 1))) = nI (24 * (m - 1) + upN ((g.2.2.2.2.2 29)) (10 * j + p) z (10 * j + (m - 1)))
          have : upN ((g.2.2.2.2.2 29)) (10 * j + p) z (10 * j + (m - 1)) = (g.2.2.2.2.2 29) (10 * j + (m - 1)) := upN_n _ _ (by omega)
          rw [this]
    · obtain ⟨u, hu⟩ := q5
      refine ⟨u, ?_⟩
      dsimp only
      rw [uv_o _ _ (by omega), uv_o _ _ (by omega)]
      split
      · rw [uv_o _ _ (by omega)]; exact hu
      · exact hu
    · dsimp only
      rw [uv_o _ _ (by omega), uv_o _ _ (by omega)]
      split
      · rw [uv_o _ _ (by omega)]; exact q6
      · exact q6
    · dsimp only
      rw [uv_o _ _ (by omega), uv_o _ _ (by omega)]
      split
      · rw [uv_o _ _ (by omega)]; exact q7
      · exact q7
  · rw [kp_1, upN_s]
    refine ⟨b3, b4, fun k hk => ?_⟩
    show updV _ p _ k = Value.int (if bt ((g.2.2.2.2.2 31) j ||| 2 ^ p) k = true then 1 else 0)
    rw [b_bt]
    by_cases e : k = p
    · subst e
      rw [uv_s, decide_eq_true rfl, Bool.or_true, if_pos rfl]
    · rw [uv_o _ _ e, decide_eq_false (fun y => e y.symm), Bool.or_false]
      exact b5 k hk
  · rw [kp_2, upN_s]
    refine ⟨c3, c4, fun k hk => ?_, fun q hq hb k hk => ?_⟩
    · show ∃ u, bwF _ (p * 24) f z k = .int u
      unfold bwF
      split
      · exact ⟨_, rfl⟩
      · exact c5 k hk
    · have hk' : k < upN ((g.2.2.2.2.2 29)) (10 * j + p) z (10 * j + q) := hk
      show bwF _ (p * 24) f z (24 * q + k) = Value.int (sb (wrF ((r.2.2.1 141)) f (240 * j + 24 * p) z (240 * j + (24 * q + k))))
      by_cases e : q = p
      · subst e
        rw [upN_s] at hk'
        unfold bwF
        rw [if_pos (by omega), show 240 * j + (24 * q + k) = 240 * j + 24 * q + k by omega, wrF_i _ _ hk', show 24 * q + k - q * 24 = k by omega]
      · rw [upN_n _ _ (by omega)] at hk'
        rw [b_bt, decide_eq_false (fun y => e y.symm), Bool.or_false] at hb
        have h24 := hsz j q hj.1 hq
        unfold bwF
        rw [if_neg (by omega), wrF_o _ _ (by omega)]
        exact c6 q hq hb k hk'
end
