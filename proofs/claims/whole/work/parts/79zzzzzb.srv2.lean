section
variable {K : Nat → pcell} {tb : Nat} {g g' : gS} {r r' r0 rW rb r2 : rS} {x x' : xS} {h h' : pheap} {d : Nat} {Q : Option Value → pheap → Prop} {B : Nat → Value} {R N f q i p n f0 a L A1 A2 al mo o k ρ v j : Nat} {fa c e b c0 u t gd m rm tl tl' s : Int32} {w w0 nm n0 : Int64} {T : Nat → Int32} {F : Nat → Int64} {P : pB}
def mvR (r : rS) (v i : Nat) : rS := sA r 82 v (nI (i + 1))
def mtP (P : pB) (v i : Nat) : pB := (P.1, upN P.2 2 (upN (P.2 2) v (i + 1)))
def mtH (h : pheap) (R v i : Nat) (nm : Int64) (s : Int32) : pheap := hset (hset (hset h (R + 12) i (.long nm)) (R + 9) (8 * v + i) (.int s)) (R + 8) v (.int (nI (i + 1)))
def mtR (r : rS) (v i : Nat) (nm : Int64) (s : Int32) : rS := sA (sA (sL r 83 (8 * v + i) nm) 84 (8 * v + i) s) 85 (8 * v + i) 0
theorem mh_8 : (mtH h R v i nm s).2.2 (R + 8) = ((h.2.2 (R + 8)).1, (h.2.2 (R + 8)).2.1, updV (h.2.2 (R + 8)).2.2 v (.int (nI (i + 1)))) := by
  unfold mtH
  rw [hs_s, hs_o _ _ (by omega), hs_o _ _ (by omega)]
theorem mh_9 : (mtH h R v i nm s).2.2 (R + 9) = ((h.2.2 (R + 9)).1, (h.2.2 (R + 9)).2.1, updV (h.2.2 (R + 9)).2.2 (8 * v + i) (.int s)) := by
  unfold mtH
  rw [hs_o _ _ (by omega), hs_s, hs_o _ _ (by omega)]
theorem mh_12 : (mtH h R v i nm s).2.2 (R + 12) = ((h.2.2 (R + 12)).1, (h.2.2 (R + 12)).2.1, updV (h.2.2 (R + 12)).2.2 i (.long nm)) := by
  unfold mtH
  rw [hs_o _ _ (by omega), hs_o _ _ (by omega), hs_s]
theorem mh_o {j : Nat} (j6 : j ≠ 8) (j7 : j ≠ 9) (j12 : j ≠ 12) : (mtH h R v i nm s).2.2 (R + j) = h.2.2 (R + j) := by
  unfold mtH
  rw [hs_o _ _ (by omega), hs_o _ _ (by omega), hs_o _ _ (by omega)]
theorem bk_mt (hb : BKc h R r P) (hr : BKr r P) (hv : v + 1 = P.1 2) (hi : P.2 2 v = i) (h8 : i < 8) (hs : isSrt (P.1 1) (P.1 2) s) : BKc (mtH h R v i nm s) R (mvR (mtR r v i nm s) v i) (mtP P v i) ∧ BKr (mvR (mtR r v i nm s) v i) (mtP P v i) := by
  obtain ⟨e1, e2, e3, e4, e5, e6, e7, ⟨f1, f2, f3⟩, ⟨d1, d2, d3⟩, g10, ⟨g11, g11', g11''⟩, g12⟩ := hb
  obtain ⟨r3, r4, r5, r6, r7, r8, r9, r10, r11⟩ := hr
  have p0 : (mtP P v i).1 = P.1 := rfl
  have s0 : (mtP P v i).2 0 = P.2 0 := rfl
  have s1 : (mtP P v i).2 1 = P.2 1 := rfl
  have s2 : (mtP P v i).2 2 = upN (P.2 2) v (i + 1) := rfl
  have s3 : (mtP P v i).2 3 = P.2 3 := rfl
  have kS : (mvR (mtR r v i nm s) v i).2.2.1 84 = upN ((r.2.2.1 84)) (8 * v + i) s := rfl
  have kO : (mvR (mtR r v i nm s) v i).2.2.1 82 = upN ((r.2.2.1 82)) v (nI (i + 1)) := rfl
  have kW : (mvR (mtR r v i nm s) v i).2.2.1 85 = upN ((r.2.2.1 85)) (8 * v + i) 0 := rfl
  have z0 : P.2 3 (8 * v + i) = 0 := r11 v i h8 (Or.inr (by omega))
  constructor
  · unfold BKc
    rw [mh_o (j := 1) (by omega) (by omega) (by omega), mh_o (j := 2) (by omega) (by omega) (by omega), mh_o (j := 3) (by omega) (by omega) (by omega), mh_o (j := 4) (by omega) (by omega) (by omega), mh_o (j := 5) (by omega) (by omega) (by omega), mh_o (j := 6) (by omega) (by omega) (by omega), mh_o (j := 7) (by omega) (by omega) (by omega), mh_8, mh_9, mh_o (j := 10) (by omega) (by omega) (by omega), mh_o (j := 11) (by omega) (by omega) (by omega), mh_12, p0, s0, s1, s2, s3, kS]
    refine ⟨e1, e2, e3, e4, e5, e6, e7, ⟨f1, f2, fun k hk => ?_⟩, ⟨d1, d2, fun k hk i' hi' => ?_⟩, g10, ⟨g11, g11', fun k hk i' hi' a ha => ?_⟩, g12⟩
    · dsimp only
      by_cases y : k = v
      · subst y
        rw [uv_s, upN_s]
      · rw [uv_o _ _ y, upN_n _ _ y]
        exact f3 k hk
    · dsimp only
      by_cases y : k = v
      · subst y
        rw [upN_s] at hi'
        by_cases y2 : i' = i
        · subst y2
          rw [uv_s, upN_s]
        · rw [uv_o _ _ (by omega), upN_n _ _ (by omega)]
          exact d3 k hk i' (by omega)
      · rw [upN_n _ _ y] at hi'
        have := (r8 k hk).2.1
        rw [uv_o _ _ (by omega), upN_n _ _ (by omega)]
        exact d3 k hk i' hi'
    · by_cases y : k = v
      · subst y
        rw [upN_s] at hi'
        by_cases y2 : i' = i
        · subst y2
          rw [z0] at ha
          omega
        · exact g11'' k hk i' (by omega) a ha
      · rw [upN_n _ _ y] at hi'
        exact g11'' k hk i' hi' a ha
  · unfold BKr
    rw [p0, s0, s1, s2, s3, kS, kO, kW]
    refine ⟨r3, r4, r5, r6, r7, fun k hk => ?_, r9, fun k hk => ?_, fun k i' hi' hh => ?_⟩
    · by_cases y : k = v
      · subst y
        rw [upN_s, upN_s]
        refine ⟨rfl, by omega, fun i' hi' => ?_⟩
        by_cases y2 : i' = i
        · subst y2
          rw [upN_s, upN_s, z0]
          exact ⟨hs, rfl, by omega, fun a ha => by omega⟩
        · rw [upN_n _ _ (by omega), upN_n _ _ (by omega)]
          exact (r8 k hk).2.2 i' (by omega)
      · rw [upN_n _ _ y, upN_n _ _ y]
        obtain ⟨v1, v2, v3⟩ := r8 k hk
        refine ⟨v1, v2, fun i' hi' => ?_⟩
        rw [upN_n _ _ (by omega), upN_n _ _ (by omega)]
        exact v3 i' hi'
    · rw [upN_n _ _ (by omega)]
      exact r10 k hk
    · by_cases y : k = v
      · subst y
        rw [upN_s] at hh
        exact r11 k i' hi' (by omega)
      · rw [upN_n _ _ y] at hh
        exact r11 k i' hi' hh
def agP (P : pB) (v i j : Nat) : pB := (P.1, upN P.2 3 (upN (P.2 3) (8 * v + i) (j + 1)))
def agH (h : pheap) (R v i j : Nat) (s : Int32) : pheap := hset (hset h (R + 11) (3 * (8 * v + i) + j) (.int s)) (R + 10) (8 * v + i) (.int (nI (j + 1)))
def agR (r : rS) (v i j : Nat) (s : Int32) : rS := sA (sA r 86 (3 * (8 * v + i) + j) s) 85 (8 * v + i) (nI (j + 1))
theorem ag_mv : mvR (agR r v i j s) v i = agR (mvR r v i) v i j s := by
  unfold mvR agR
  rw [sA_cm (a := 85) (b := 82) (by decide), sA_cm (a := 86) (b := 82) (by decide)]
theorem ah_10 : (agH h R v i j s).2.2 (R + 10) = ((h.2.2 (R + 10)).1, (h.2.2 (R + 10)).2.1, updV (h.2.2 (R + 10)).2.2 (8 * v + i) (.int (nI (j + 1)))) := by
  unfold agH
  rw [hs_s, hs_o _ _ (by omega)]
theorem ah_11 : (agH h R v i j s).2.2 (R + 11) = ((h.2.2 (R + 11)).1, (h.2.2 (R + 11)).2.1, updV (h.2.2 (R + 11)).2.2 (3 * (8 * v + i) + j) (.int s)) := by
  unfold agH
  rw [hs_o _ _ (by omega), hs_s]
theorem ah_o {l : Nat} (j6 : l ≠ 10) (j7 : l ≠ 11) : (agH h R v i j s).2.2 (R + l) = h.2.2 (R + l) := by
  unfold agH
  rw [hs_o _ _ (by omega), hs_o _ _ (by omega)]
theorem bk_ag (hb : BKc h R r P) (hr : BKr r P) (hv : v + 1 = P.1 2) (hi : P.2 2 v = i + 1) (hj : P.2 3 (8 * v + i) = j) (h3 : j < 3) (hs : isSrt (P.1 1) (P.1 2) s) : BKc (agH h R v i j s) R (agR r v i j s) (agP P v i j) ∧ BKr (agR r v i j s) (agP P v i j) := by
  obtain ⟨e1, e2, e3, e4, e5, e6, e7, e8, e9, ⟨f1, f2, f3⟩, ⟨g11, g11', g11''⟩, g12⟩ := hb
  obtain ⟨r3, r4, r5, r6, r7, r8, r9, r10, r11⟩ := hr
  have p0 : (agP P v i j).1 = P.1 := rfl
  have s0 : (agP P v i j).2 0 = P.2 0 := rfl
  have s1 : (agP P v i j).2 1 = P.2 1 := rfl
  have s2 : (agP P v i j).2 2 = P.2 2 := rfl
  have s3 : (agP P v i j).2 3 = upN (P.2 3) (8 * v + i) (j + 1) := rfl
  have kS : (agR r v i j s).2.2.1 86 = upN ((r.2.2.1 86)) (3 * (8 * v + i) + j) s := rfl
  have kW : (agR r v i j s).2.2.1 85 = upN ((r.2.2.1 85)) (8 * v + i) (nI (j + 1)) := rfl
  constructor
  · unfold BKc
    rw [ah_o (l := 1) (by omega) (by omega), ah_o (l := 2) (by omega) (by omega), ah_o (l := 3) (by omega) (by omega), ah_o (l := 4) (by omega) (by omega), ah_o (l := 5) (by omega) (by omega), ah_o (l := 6) (by omega) (by omega), ah_o (l := 7) (by omega) (by omega), ah_o (l := 8) (by omega) (by omega), ah_o (l := 9) (by omega) (by omega), ah_10, ah_11, ah_o (l := 12) (by omega) (by omega), p0, s0, s1, s2, s3, kS]
    refine ⟨e1, e2, e3, e4, e5, e6, e7, e8, e9, ⟨f1, f2, fun k hk => ?_⟩, ⟨g11, g11', fun k hk i' hi' a ha => ?_⟩, g12⟩
    · dsimp only
      by_cases y : k = 8 * v + i
      · subst y
        rw [uv_s, upN_s]
      · rw [uv_o _ _ y, upN_n _ _ y]
        exact f3 k hk
    · dsimp only
      by_cases y : 8 * k + i' = 8 * v + i
      · rw [y] at ha ⊢
        rw [upN_s] at ha
        by_cases y2 : a = j
        · subst y2
          rw [uv_s, upN_s]
        · rw [uv_o _ _ (by omega), upN_n _ _ (by omega)]
          have := g11'' k hk i' hi' a (by rw [y]; omega)
          rw [y] at this
          exact this
      · rw [upN_n _ _ y] at ha
        have := (r8 k hk).2.2 i' hi'
        rw [uv_o _ _ (by omega), upN_n _ _ (by omega)]
        exact g11'' k hk i' hi' a ha
  · unfold BKr
    rw [p0, s0, s1, s2, s3, kS, kW]
    refine ⟨r3, r4, r5, r6, r7, fun k hk => ?_, r9, r10, fun k i' hi' hh => ?_⟩
    · obtain ⟨v1, v2, v3⟩ := r8 k hk
      refine ⟨v1, v2, fun i' hi' => ?_⟩
      obtain ⟨v4, v5, v6, v7⟩ := v3 i' hi'
      by_cases y : 8 * k + i' = 8 * v + i
      · rw [y] at v4 v5 v6 v7 ⊢
        rw [upN_s, upN_s]
        refine ⟨v4, rfl, by omega, fun a ha => ?_⟩
        by_cases y2 : a = j
        · subst y2
          rw [upN_s]
          exact hs
        · rw [upN_n _ _ (by omega)]
          exact v7 a (by omega)
      · rw [upN_n _ _ y, upN_n _ _ y]
        refine ⟨v4, v5, v6, fun a ha => ?_⟩
        rw [upN_n _ _ (by omega)]
        exact v7 a ha
    · have hkv := (r8 v (by omega)).2.1
      have hlt : P.1 2 ≤ k ∨ P.2 2 k ≤ i' := hh
      rw [upN_n _ _ (fun y => by
        have e1 : k = v := by omega
        have e2 : i' = i := by omega
        subst e1
        omega)]
      exact r11 k i' hi' hh
end
