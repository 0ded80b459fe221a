section
variable {K : Nat → pcell} {tb : Nat} {g g' : gS} {r r' r0 rW rb : rS} {x x' : xS} {h h' : pheap} {d : Nat} {Q : Option Value → pheap → Prop} {B : Nat → Value} {R N f q i p n f0 a L A1 A2 al mo o k ρ : Nat} {fa c e b c0 u t gd m rm tl tl' s : Int32} {w v w0 nm : Int64} {T : Nat → Int32} {F : Nat → Int64} {P : pB}
def rcP (P : pB) : pB := (upN P.1 1 (P.1 1 + 1), P.2)
def rcH (h : pheap) (R : Nat) (P : pB) (nm : Int64) : pheap := hset (hset h (R + 3) (P.1 1) (.long nm)) (R + 1) 1 (.int (nI (P.1 1 + 1)))
def rcR (r : rS) (P : pB) (nm : Int64) : rS := sI (sA (sL r 77 (P.1 1) nm) 78 (P.1 1) 0) 16 (nI (P.1 1 + 1))
theorem bk_rc (hb : BKc h R r P) (hr : BKr r P) (h6 : P.1 1 < 6) : BKc (rcH h R P nm) R (rcR r P nm) (rcP P) ∧ BKr (rcR r P nm) (rcP P) := by
  obtain ⟨⟨c0, c1, c2, c3, c4⟩, e2, ⟨d1, d2, d3⟩, e4, e5, g6, g7, g8, g9, g10, g11, g12⟩ := hb
  obtain ⟨r3, r4, r5, r6, r7, r8, r9, r10, r11⟩ := hr
  have q1 : (rcH h R P nm).2.2 (R + 1) = ((h.2.2 (R + 1)).1, (h.2.2 (R + 1)).2.1, updV (h.2.2 (R + 1)).2.2 1 (.int (nI (P.1 1 + 1)))) := by
    unfold rcH
    rw [hs_s, hs_o _ _ (by omega)]
  have q3 : (rcH h R P nm).2.2 (R + 3) = ((h.2.2 (R + 3)).1, (h.2.2 (R + 3)).2.1, updV (h.2.2 (R + 3)).2.2 (P.1 1) (.long nm)) := by
    unfold rcH
    rw [hs_o _ _ (by omega), hs_s]
  have qo : ∀ j, j ≠ 1 → j ≠ 3 → (rcH h R P nm).2.2 (R + j) = h.2.2 (R + j) := fun j j1 j3 => by
    unfold rcH
    rw [hs_o _ _ (by omega), hs_o _ _ (by omega)]
  have p0 : (rcP P).1 0 = P.1 0 := rfl
  have p1 : (rcP P).1 1 = P.1 1 + 1 := rfl
  have p2 : (rcP P).1 2 = P.1 2 := rfl
  have s0 : (rcP P).2 = P.2 := rfl
  have kN : (rcR r P nm).2.2.2 77 = upN ((r.2.2.2 77)) (P.1 1) nm := rfl
  have kO : (rcR r P nm).2.2.1 78 = upN ((r.2.2.1 78)) (P.1 1) 0 := rfl
  have z0 := r9 (P.1 1) (Nat.le_refl _)
  constructor
  · unfold BKc
    rw [q1, qo 2 (by omega) (by omega), q3, qo 4 (by omega) (by omega), qo 5 (by omega) (by omega), qo 6 (by omega) (by omega), qo 7 (by omega) (by omega), qo 8 (by omega) (by omega), qo 9 (by omega) (by omega), qo 10 (by omega) (by omega), qo 11 (by omega) (by omega), qo 12 (by omega) (by omega), p0, p1, p2, s0, kN]
    refine ⟨⟨c0, ?_, ?_, ?_, fun j hj => ?_⟩, e2, ⟨d1, d2, fun k hk => ?_⟩, e4, e5, g6, ⟨g7.1, g7.2.1, fun k hk i hi => ?_⟩, g8, g9, g10, g11, g12⟩
    · dsimp only
      rw [uv_o _ _ (by decide)]
      exact c1
    · dsimp only
      rw [uv_s]
    · dsimp only
      rw [uv_o _ _ (by decide)]
      exact c3
    · dsimp only
      rw [uv_o _ _ (by omega)]
      exact c4 j hj
    · dsimp only
      by_cases y : k = P.1 1
      · subst y
        rw [uv_s, Nat.zero_add, upN_s]
      · rw [uv_o _ _ y, upN_n _ _ (by omega)]
        exact d3 k (by omega)
    · by_cases y : k = P.1 1
      · subst y
        rw [z0] at hi
        omega
      · exact g7.2.2 k (by omega) i hi
  · unfold BKr
    rw [p0, p1, p2, s0, kO]
    refine ⟨r3, ⟨rfl, by omega⟩, r5, r6, fun k hk => ?_, fun k hk => ?_, fun k hk => r9 k (by omega), r10, r11⟩
    · by_cases y : k = P.1 1
      · subst y
        rw [upN_s, z0]
        exact ⟨rfl, by omega, fun i hi => by omega⟩
      · rw [upN_n _ _ y]
        obtain ⟨v1, v2, v3⟩ := r7 k (by omega)
        exact ⟨v1, v2, fun i hi => srt_up (by omega) (Nat.le_refl _) (v3 i hi)⟩
    · obtain ⟨v1, v2, v3⟩ := r8 k hk
      refine ⟨v1, v2, fun i hi => ?_⟩
      obtain ⟨v4, v5, v6, v7⟩ := v3 i hi
      exact ⟨srt_up (by omega) (Nat.le_refl _) v4, v5, v6, fun a ha => srt_up (by omega) (Nat.le_refl _) (v7 a ha)⟩
theorem rb_rc (hrb : RB r rb) : RB (rcR r P nm) rb := by
  obtain ⟨b1, b2, b3, b4⟩ := hrb
  refine ⟨fun k z0 z1 z2 z3 z4 z5 z6 z7 => ?_, fun a z0 z1 z2 z3 z4 z5 z6 => ?_, fun a z0 z1 z2 z3 z4 => ?_, b4⟩
  · show upN r.1 16 _ k = _
    rw [upN_n _ _ z6]
    exact b1 k z0 z1 z2 z3 z4 z5 z6 z7
  · show upN r.2.2.1 78 _ a = _
    rw [upN_n _ _ z1]
    exact b2 a z0 z1 z2 z3 z4 z5 z6
  · show upN r.2.2.2 77 _ a = _
    rw [upN_n _ _ z1]
    exact b3 a z0 z1 z2 z3 z4
def fdP (P : pB) (ρ i : Nat) : pB := (P.1, upN P.2 1 (upN (P.2 1) ρ (i + 1)))
def fdH (h : pheap) (R ρ i : Nat) (nm : Int64) (s : Int32) : pheap := hset (hset (hset h (R + 12) i (.long nm)) (R + 7) (6 * ρ + i) (.int s)) (R + 6) ρ (.int (nI (i + 1)))
def feR (r : rS) (ρ i : Nat) (nm : Int64) (s : Int32) : rS := sA (sA (sL r 79 (6 * ρ + i) nm) 80 (6 * ρ + i) s) 78 ρ (nI (i + 1))
theorem fh_6 : (fdH h R ρ i nm s).2.2 (R + 6) = ((h.2.2 (R + 6)).1, (h.2.2 (R + 6)).2.1, updV (h.2.2 (R + 6)).2.2 ρ (.int (nI (i + 1)))) := by
  unfold fdH
  rw [hs_s, hs_o _ _ (by omega), hs_o _ _ (by omega)]
theorem fh_7 : (fdH h R ρ i nm s).2.2 (R + 7) = ((h.2.2 (R + 7)).1, (h.2.2 (R + 7)).2.1, updV (h.2.2 (R + 7)).2.2 (6 * ρ + i) (.int s)) := by
  unfold fdH
  rw [hs_o _ _ (by omega), hs_s, hs_o _ _ (by omega)]
theorem fh_12 : (fdH h R ρ i nm s).2.2 (R + 12) = ((h.2.2 (R + 12)).1, (h.2.2 (R + 12)).2.1, updV (h.2.2 (R + 12)).2.2 i (.long nm)) := by
  unfold fdH
  rw [hs_o _ _ (by omega), hs_o _ _ (by omega), hs_s]
theorem fh_o {j : Nat} (j6 : j ≠ 6) (j7 : j ≠ 7) (j12 : j ≠ 12) : (fdH h R ρ i nm s).2.2 (R + j) = h.2.2 (R + j) := by
  unfold fdH
  rw [hs_o _ _ (by omega), hs_o _ _ (by omega), hs_o _ _ (by omega)]
theorem bk_fd (hb : BKc h R r P) (hr : BKr r P) (hρ : ρ + 1 = P.1 1) (hi : P.2 1 ρ = i) (h6 : i < 6) (hs : isSrt (P.1 1) (P.1 2) s) : BKc (fdH h R ρ i nm s) R (feR r ρ i nm s) (fdP P ρ i) ∧ BKr (feR r ρ i nm s) (fdP P ρ i) := by
  obtain ⟨e1, e2, e3, e4, e5, ⟨f1, f2, f3⟩, ⟨d1, d2, d3⟩, g8, g9, g10, g11, g12⟩ := hb
  obtain ⟨r3, r4, r5, r6, r7, r8, r9, r10, r11⟩ := hr
  have p0 : (fdP P ρ i).1 = P.1 := rfl
  have s0 : (fdP P ρ i).2 0 = P.2 0 := rfl
  have s1 : (fdP P ρ i).2 1 = upN (P.2 1) ρ (i + 1) := rfl
  have s2 : (fdP P ρ i).2 2 = P.2 2 := rfl
  have s3 : (fdP P ρ i).2 3 = P.2 3 := rfl
  have kS : (feR r ρ i nm s).2.2.1 80 = upN ((r.2.2.1 80)) (6 * ρ + i) s := rfl
  have kO : (feR r ρ i nm s).2.2.1 78 = upN ((r.2.2.1 78)) ρ (nI (i + 1)) := rfl
  constructor
  · unfold BKc
    rw [fh_o (j := 1) (by omega) (by omega) (by omega), fh_o (j := 2) (by omega) (by omega) (by omega), fh_o (j := 3) (by omega) (by omega) (by omega), fh_o (j := 4) (by omega) (by omega) (by omega), fh_o (j := 5) (by omega) (by omega) (by omega), fh_6, fh_7, fh_o (j := 8) (by omega) (by omega) (by omega), fh_o (j := 9) (by omega) (by omega) (by omega), fh_o (j := 10) (by omega) (by omega) (by omega), fh_o (j := 11) (by omega) (by omega) (by omega), fh_12, p0, s0, s1, s2, s3, kS]
    refine ⟨e1, e2, e3, e4, e5, ⟨f1, f2, fun k hk => ?_⟩, ⟨d1, d2, fun k hk i' hi' => ?_⟩, g8, g9, g10, g11, g12⟩
    · dsimp only
      by_cases y : k = ρ
      · subst y
        rw [uv_s, upN_s]
      · rw [uv_o _ _ y, upN_n _ _ y]
        exact f3 k hk
    · dsimp only
      by_cases y : k = ρ
      · subst y
        rw [upN_s] at hi'
        by_cases y2 : i' = i
        · subst y2
          rw [uv_s, upN_s]
        · rw [uv_o _ _ (by omega), upN_n _ _ (by omega)]
          exact d3 k hk i' (by omega)
      · rw [upN_n _ _ y] at hi'
        have := (r7 k hk).2.1
        rw [uv_o _ _ (by omega), upN_n _ _ (by omega)]
        exact d3 k hk i' hi'
  · unfold BKr
    rw [p0, s0, s1, s2, s3, kS, kO]
    refine ⟨r3, r4, r5, r6, fun k hk => ?_, r8, fun k hk => ?_, r10, r11⟩
    · by_cases y : k = ρ
      · subst y
        rw [upN_s, upN_s]
        refine ⟨rfl, by omega, fun i' hi' => ?_⟩
        by_cases y2 : i' = i
        · subst y2
          rw [upN_s]
          exact hs
        · rw [upN_n _ _ (by omega)]
          exact (r7 k hk).2.2 i' (by omega)
      · rw [upN_n _ _ y, upN_n _ _ y]
        obtain ⟨v1, v2, v3⟩ := r7 k hk
        refine ⟨v1, v2, fun i' hi' => ?_⟩
        rw [upN_n _ _ (by omega)]
        exact v3 i' hi'
    · rw [upN_n _ _ (by omega)]
      exact r9 k hk
theorem rb_fd (hrb : RB r rb) : RB (feR r ρ i nm s) rb := by
  obtain ⟨b1, b2, b3, b4⟩ := hrb
  refine ⟨b1, fun a z0 z1 z2 z3 z4 z5 z6 => ?_, fun a z0 z1 z2 z3 z4 => ?_, b4⟩
  · show upN (upN r.2.2.1 80 _) 78 _ a = _
    rw [upN_n _ _ z1, upN_n _ _ z2]
    exact b2 a z0 z1 z2 z3 z4 z5 z6
  · show upN r.2.2.2 79 _ a = _
    rw [upN_n _ _ z2]
    exact b3 a z0 z1 z2 z3 z4
end
