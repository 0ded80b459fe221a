/-! tick -/
section
variable {K : Nat → pcell} {tb : Nat} {g g' g1 g2 g0 : gS} {r r' r0 r1 r2 s s' : rS} {x x' x1 x2 xb : xS} {h h' h1 h2 h0 : pheap} {a n k m i j c p q d A : Nat} {Q : Option Value → pheap → Prop} {e v : Int32}
/-- a remote call is given up, or AGED -/
theorem w_st (hw : World K tb g r x h) (hc : c < (g.1 0 5)) (hrem : (g.2.2.2.2.2 14) c ≠ (g.2.2.2.2.2 15) c) (h0 : (r.2.2.1 118) c = 0) (hv : v = 3 ∨ v = 4) : World K tb g (sA r 118 c v) x (hset h ((g.1 6) c) 7 (.int v)) := by
  have v1 : v ≠ 1 := by rcases hv with z | z <;> rw [z] <;> decide
  have v2 : v ≠ 2 := by rcases hv with z | z <;> rw [z] <;> decide
  have v0 : v ≠ 0 := by rcases hv with z | z <;> rw [z] <;> decide
  have hS := op_cst hw.1 hc (v := v) (by rw [h0]; decide) (by rw [h0]; decide) v1 v2
  obtain ⟨-, ⟨i1, i2, i3, i4, i5, i6, i7, i8, i9, i10⟩, ⟨m1, m2, m3, m4, m5⟩⟩ := hw
  have hn : ∀ j, j ≠ c → (sA r 118 c v).2.2.1 118 j = (r.2.2.1 118) j := fun j hj => sA_K _ _ _ _ hj
  have hs : (sA r 118 c v).2.2.1 118 c = v := sA_s _ _ _ _
  refine ⟨hS, ⟨i1, i2, i3, i4, i5, i6, i7, i8, fun j hj => ?_, i10⟩, m1, m2, m3, m4, fun j hj => ?_⟩
  · obtain ⟨u1, u2, u3, u4, u5, u6, u7, u8, u9, u10, u11, u12, u13⟩ := i9 j hj
    refine ⟨u1, u2, u3, u4, u5, u6, u7, u8, u9, u10, u11, ?_, u13⟩
    by_cases e : j = c
    · subst e
      rw [hs]
      rcases hv with z | z
      · exact ⟨3, by omega, z⟩
      · exact ⟨4, by omega, z⟩
    · rw [hn j e]
      exact u12
  · obtain ⟨y1, y2, y3, y4, y5, y6⟩ := m5 j hj
    refine ⟨y1, y2, y3, fun i hi hio => ?_, fun z => ?_, fun z1 z2 => ?_⟩
    · obtain ⟨q1, q2, q3, q4⟩ := y4 i hi hio
      refine ⟨q1, q2, fun z => ?_, q4⟩
      by_cases e : i = c
      · rw [e, hs] at z
        exact absurd z v0
      · rw [hn i e] at z
        obtain ⟨q5, q6⟩ := q3 z
        refine ⟨fun z2 => ?_, q6⟩
        have hj' : j ≠ c := fun y => hrem (by rw [← y]; exact z2)
        rw [hn j hj']
        exact q5 z2
    · by_cases e : j = c
      · rw [e, hs] at z
        exact absurd z v0
      · rw [hn j e] at z
        exact y5 z
    · by_cases e : j = c
      · rw [e, hs] at z2
        exact absurd z2 v0
      · rw [hn j e] at z2
        exact y6 z1 z2
/-- time goes on -/
theorem nI_s1 : nI n + 1 = nI (n + 1) := ni_add (a := n) (b := 1)
theorem t_sub {a b : Int32} : (a + 1) - b = (a - b) + 1 := by
  rw [Int32.sub_eq_add_neg, Int32.sub_eq_add_neg, Int32.add_assoc, Int32.add_assoc, Int32.add_comm 1]
theorem w_time (hw : World K tb g r x h) (htb : tb % 2 = 0) : World K (tb + 1) g (sI r 75 ((r.1 75) + 1)) (tI x 5 15 ((r.1 75) + 1)) h ∧ ∀ j, j < (g.1 0 5) → (g.2.2.2.2.2 14) j ≠ (g.2.2.2.2.2 15) j → (r.2.2.1 118) j = 0 → ∃ s, 1 ≤ s ∧ s ≤ 36 ∧ ((r.1 75) + 1) - (r.2.2.1 122) j = nI s := by
  obtain ⟨⟨s0, pf, hC, bk, vr, kp, ⟨t1, t2, t3, t4⟩, fl, fw, ⟨x1, x2, x3, x4⟩⟩, ⟨i1, i2, i3, i4, i5, i6, i7, i8, i9, i10⟩, ⟨m1, m2, m3, m4, m5⟩⟩ := hw
  have key : ∀ j, j < (g.1 0 5) → (g.2.2.2.2.2 14) j ≠ (g.2.2.2.2.2 15) j → (r.2.2.1 118) j = 0 → ∃ s, 1 ≤ s ∧ s ≤ 36 ∧ ((r.1 75) + 1) - (r.2.2.1 122) j = nI s := fun j hj hl h0 => by
    obtain ⟨-, -, -, -, -, y6⟩ := m5 j hj
    obtain ⟨s, s1, s2⟩ := y6 hl h0
    refine ⟨s + 1, by omega, by omega, ?_⟩
    rw [t_sub, s2, nI_s1]
  refine ⟨⟨⟨s0, pf, hC, bk, vr, kp, ⟨?_, fun k hk => ?_, ?_, fun k hk => ?_⟩, fun q q1 q2 => ?_, fxw_t fw (by omega), ⟨?_, ?_, ?_, ?_⟩⟩, ⟨i1, i2, i3, fun i hi => ?_, i5, i6, i7, i8, i9, i10⟩, ⟨m1, m2, m3, m4, fun j hj => ?_⟩⟩, key⟩
  · rw [tI_ne _ _ (by omega)]; exact t1
  · rw [tI_ne _ _ (by omega)]; exact t2 k hk
  · rw [tI_ne _ _ (by omega)]; exact t3
  · rw [tI_ne _ _ (by omega)]; exact t4 k hk
  · obtain ⟨y1, y2⟩ := fl q q1 q2
    refine ⟨?_, y2⟩
    rw [tI_ne _ _ (by omega)]
    exact y1
  · rw [tI_ne _ _ (by omega)]; exact x1
  · rw [tI_ne _ _ (by omega)]; exact x2
  · rw [tI_s]; exact (sI_s _ _ _).symm
  · rw [tI_ne _ _ (by omega)]; exact x4
  · obtain ⟨z1, z2, z3, z4, z5, z6⟩ := i4 i hi
    refine ⟨z1, z2, fun k hk => ?_, z4, z5, z6⟩
    obtain ⟨s, s1, s2⟩ := z3 k hk
    exact ⟨s, by omega, s2⟩
  · obtain ⟨y1, y2, y3, y4, y5, y6⟩ := m5 j hj
    refine ⟨y1, y2, y3, y4, y5, fun z1 z2 => ?_⟩
    obtain ⟨s, s1, s2, s3⟩ := key j hj z1 z2
    refine ⟨s, by omega, ?_⟩
    show (sI r 75 ((r.1 75) + 1)).1 75 - (r.2.2.1 122) j = nI s
    rw [sI_s]
    exact s3
theorem w_again (hw : World K tb g r x h) (hi : i < (g.1 0 3)) : World K tb g (sA r 98 i v) x (hset h ((g.1 4) i) 3 (.int v)) := by
  have hS := op_again hw.1 hi v
  obtain ⟨-, ⟨i1, i2, i3, i4, i5, i6, i7, i8, i9, i10⟩, hm⟩ := hw
  refine ⟨hS, ⟨i1, i2, i3, fun j hj => ?_, i5, i6, i7, i8, i9, i10⟩, hm⟩
  obtain ⟨z1, z2, z3, z4, z5, z6⟩ := i4 j hj
  refine ⟨fun z => ?_, z2, z3, z4, z5, z6⟩
  obtain ⟨y1, y2, y3, y4, y5, y6⟩ := z1 z
  exact ⟨y1, y2, by rw [sA_K _ _ _ _ (by omega)]; exact y3, y4, y5, y6⟩
theorem w_took (hw : World K tb g r x h) (hi : i < (g.1 0 3)) : World K tb g (sA r 99 i v) x (hset h ((g.1 4) i) 4 (.int v)) := by
  have hS := op_took hw.1 hi v
  obtain ⟨-, ⟨i1, i2, i3, i4, i5, i6, i7, i8, i9, i10⟩, hm⟩ := hw
  refine ⟨hS, ⟨i1, i2, i3, fun j hj => ?_, i5, i6, i7, i8, i9, i10⟩, hm⟩
  obtain ⟨z1, z2, z3, z4, z5, z6⟩ := i4 j hj
  refine ⟨fun z => ?_, z2, z3, z4, z5, z6⟩
  obtain ⟨y1, y2, y3, y4, y5, y6⟩ := z1 z
  exact ⟨y1, y2, y3, by rw [sA_K _ _ _ _ (by omega)]; exact y4, y5, y6⟩
end
