section
variable {K : Nat → pcell} {tb : Nat} {g g' g2 : gS} {r r' r0 r1 r2 rb : rS} {x x' : xS} {h h' : pheap} {a b n k m i c p q R : Nat} {P : pB}
/-- the roles once a book is there -/
def bkRo (ro : Nat → Nat × Nat) (R : Nat) : Nat → Nat × Nat := fun b => if R + 1 ≤ b ∧ b < R + 12 then (18, b - (R + 1)) else if (ro b).1 = 18 then (0, 0) else ro b
theorem bo_i {ro : Nat → Nat × Nat} (hb : R + 1 ≤ b ∧ b < R + 12) : bkRo ro R b = (18, b - (R + 1)) := if_pos hb
theorem bo_z {ro : Nat → Nat × Nat} (hb : ¬ (R + 1 ≤ b ∧ b < R + 12)) (h18 : (ro b).1 = 18) : bkRo ro R b = (0, 0) := (if_neg hb).trans (if_pos h18)
theorem bo_n {ro : Nat → Nat × Nat} (hb : ¬ (R + 1 ≤ b ∧ b < R + 12)) (h18 : ¬ (ro b).1 = 18) : bkRo ro R b = ro b := (if_neg hb).trans (if_neg h18)
def dbG (g : gS) (P : pB) (R : Nat) : gS := (g.1, g.2.1, g.2.2.1, bkRo g.2.2.2.1 R, upN (upN (upN g.2.2.2.2.1 1 (P.1 0)) 2 (P.1 1)) 3 (P.1 2), upN (upN (upN (upN g.2.2.2.2.2 35 (P.2 0)) 8 (P.2 1)) 9 (P.2 2)) 10 (P.2 3))
def dbR (r : rS) : rS := sI (sI r 1 0) 2 1
def dbX (x : xS) (v : Int32) (R : Nat) : xS := tI (tR (tI x 5 4 v) 0 (R + 1)) 5 3 1
/-- a text that is a book -/
theorem w_dbk (hw : World K tb g (sI r 1 0) x h) (hb : (r.1 2) = 0) (hr : RB r' r) (hR : 146 ≤ R ∧ R + 12 < h.1 ∧ ∀ j, j < 13 → g.2.2.2.1 (R + j) = (0, 0)) (hc : BKc h R r' P) (hk : BKr r' P) : World K tb (dbG g P R) (dbR r') (dbX x ((r'.1 3)) R) h := by
  obtain ⟨⟨k1, k2, k3, -⟩, n1, n2, n3⟩ := no_bk hw hb
  have hE := ds_eq hr
  unfold BKc at hc
  unfold BKr at hk
  revert hE hc hk
  generalize (r'.1 5) = yat
  generalize (r'.1 6) = yfrom
  generalize (r'.1 7) = ytoken
  generalize (r'.1 4) = yfault
  generalize (r'.1 3) = yfaultPlace
  generalize (r'.1 11) = ykinds
  generalize (r'.1 16) = yrecords
  generalize (r'.1 23) = yservices
  generalize (r'.2.2.1 76) = ykindOf
  generalize (r'.2.2.1 78) = yfields
  generalize (r'.2.2.1 80) = yfieldSorts
  generalize (r'.2.2.1 82) = ymethods
  generalize (r'.2.2.1 84) = ymethodSorts
  generalize (r'.2.2.1 85) = ywanted
  generalize (r'.2.2.1 86) = ywantedSorts
  generalize (r'.2.2.2 75) = ykindNames
  generalize (r'.2.2.2 77) = yrecordNames
  generalize (r'.2.2.2 79) = yfieldNames
  generalize (r'.2.2.2 81) = yserviceNames
  generalize (r'.2.2.2 83) = ymethodNames
  generalize r'.2.1 = yw
  intro hc hk hE
  subst hE
  obtain ⟨⟨s0, pf, hC, bk, vr, kp, ft, flx, fw, fx⟩, ⟨i1, i2, i3, i4, i5, i6, i7, i8, i9, i10⟩, ⟨m1, m2, m3, m4, m5⟩⟩ := hw
  obtain ⟨hR1, hR2, hR3⟩ := hR
  obtain ⟨⟨kk1, kk2, kk3⟩, ⟨kr1, kr2⟩, ⟨ks1, ks2⟩, kq1, kq2, kq3, -⟩ := hk
  have hro : ∀ b, R + 1 ≤ b ∧ b < R + 12 → g.2.2.2.1 b = (0, 0) := fun b hb => by
    have := hR3 (b - R) (by omega)
    rw [show R + (b - R) = b by omega] at this
    exact this
  have trO : ∀ n p c, okP g.2.2.2.1 n p c → c.1 ≠ 0 → c.1 ≠ 18 → okP (bkRo g.2.2.2.1 R) n p c := fun n p c ⟨o1, o2, o3⟩ c0 c18 => by
    refine ⟨o1, o2, ?_⟩
    have hn : ¬ (R + 1 ≤ p ∧ p < R + 12) := fun y => c0 (by rw [← o3, hro p y])
    rw [bo_n hn (by rw [o3]; exact c18), o3]
  have tr : ∀ p c, Ref0 g x.2 p c → c.1 ≠ 18 → okP (bkRo g.2.2.2.1 R) h.1 p c := fun p c hr c18 => trO _ p c (pf.1 p c hr) (ref_c0 hr) c18
  have hx0 : (dbX x yfaultPlace R).2 0 = R + 1 := rfl
  have hxq : ∀ q, 1 ≤ q → (dbX x yfaultPlace R).2 q = x.2 q := fun q hq => upN_n _ _ (by omega)
  have hxe : ∀ a k, ¬ (a = 5 ∧ (k = 3 ∨ k = 4)) → (dbX x yfaultPlace R).1 a k = x.1 a k := fun a k y => by
    refine (tI_ne _ _ (by omega)).trans ?_
    show (tI x 5 4 yfaultPlace).1 a k = _
    exact tI_ne _ _ (by omega)
  have hx4 : (dbX x yfaultPlace R).1 5 4 = yfaultPlace := by
    refine (tI_ne _ _ (by omega)).trans ?_
    show (tI x 5 4 yfaultPlace).1 5 4 = _
    exact tI_s _ _ _ _
  obtain ⟨ft', fl', fw'⟩ := fx_up (x' := dbX x yfaultPlace R) ft flx fw (fun q q1 _ => hxq q q1) hxe
  refine ⟨⟨⟨s0.1, s0.2.1, s0.2.2.1, fun b hb => ?_⟩, ⟨fun p c hp => ?_, fun a z1 z2 => ?_, fun b hb => ?_⟩, fun b q1 q2 => ?_, Or.inr (by rw [hx0]; omega), ⟨vr.1, fun m hm => ?_, fun c hc hv => ?_⟩, kp, ft', fl', fw', ⟨tI_s _ _ _ _, hx4, (hxe _ _ (by omega)).trans fx.2.2.1, (hxe _ _ (by omega)).trans fx.2.2.2⟩⟩, ⟨?_, i2, ⟨Or.inr rfl, fun y => absurd (show (1 : Int32) = 0 from y) (by decide), kq1, kq2, kq3⟩, i4, fun o ho => ?_, fun m hm => ?_, ⟨fun k hk => ⟨srt_up (by rw [k2]; exact Nat.zero_le _) (by rw [k3]; exact Nat.zero_le _) (i7.1 k hk).1, (i7.1 k hk).2⟩, fun m hm => ?_, fun c hc hv => ?_⟩, fun f hf => ?_, fun c hc => ?_, i10⟩, ⟨m1, m2, fun c hc y => ?_, fun c hc y => ?_, m5⟩⟩
  · have hz : g.2.2.2.1 b = (0, 0) := s0.2.2.2 b hb
    have hn : ¬ (R + 1 ≤ b ∧ b < R + 12) := by omega
    exact (bo_n hn (by rw [hz]; decide)).trans hz
  · rcases hp with ⟨i, hi, hl⟩ | ⟨i, hi, e1, e2⟩ | ⟨m, hm, -⟩ | ⟨i, hi, hl⟩ | ⟨i, hi, e1, e2⟩ | ⟨i, hi, hl⟩ | ⟨j, hj, hz, hl⟩ | ⟨q, q1, q2, hx, e1, e2⟩ | ⟨j, hj, hx, e1, e2⟩
    · refine tr p c (Or.inl ⟨i, hi, hl⟩) ?_
      rcases hl with ⟨-, rfl⟩ | ⟨-, rfl⟩ | ⟨-, rfl⟩ | ⟨-, rfl⟩
      all_goals (intro z; dsimp only at z; omega)
    · refine tr p c (Or.inr (Or.inl ⟨i, hi, e1, e2⟩)) ?_
      subst e2
      intro z; dsimp only at z; omega
    · have hm' : m < (g.1 0 1) := hm
      rw [n1] at hm'
      exact absurd hm' (Nat.not_lt_zero _)
    · refine tr p c (Or.inr (Or.inr (Or.inr (Or.inl ⟨i, hi, hl⟩)))) ?_
      rcases hl with ⟨-, rfl⟩ | ⟨-, rfl⟩
      all_goals (intro z; dsimp only at z; omega)
    · refine tr p c (Or.inr (Or.inr (Or.inr (Or.inr (Or.inl ⟨i, hi, e1, e2⟩))))) ?_
      subst e2
      intro z; dsimp only at z; omega
    · refine tr p c (Or.inr (Or.inr (Or.inr (Or.inr (Or.inr (Or.inl ⟨i, hi, hl⟩)))))) ?_
      rcases hl with ⟨-, rfl⟩ | ⟨-, -, rfl⟩ | ⟨-, -, rfl⟩ | ⟨-, -, rfl⟩ | ⟨-, -, rfl⟩
      all_goals (intro z; dsimp only at z; omega)
    · refine tr p c (Or.inr (Or.inr (Or.inr (Or.inr (Or.inr (Or.inr (Or.inl ⟨j, hj, hz, hl⟩))))))) ?_
      rcases hl with ⟨-, rfl⟩ | ⟨-, rfl⟩ | ⟨-, rfl⟩
      all_goals (intro z; dsimp only at z; omega)
    · rw [hxq q q1] at hx e1
      refine tr p c (Or.inr (Or.inr (Or.inr (Or.inr (Or.inr (Or.inr (Or.inr (Or.inl ⟨q, q1, q2, hx, e1, e2⟩)))))))) ?_
      subst e2
      intro z; dsimp only at z; omega
    · rw [hx0] at e1
      refine ⟨by omega, by omega, ?_⟩
      rw [e2, e1]
      refine (bo_i (by omega)).trans ?_
      rw [Nat.add_sub_cancel_left]
  · have hn : ¬ (R + 1 ≤ a ∧ a < R + 12) := fun y => by
      have z1' : (bkRo g.2.2.2.1 R a).1 = 1 := z1
      rw [bo_i y] at z1'
      dsimp only at z1'
      omega
    have h18 : ¬ (g.2.2.2.1 a).1 = 18 := fun y => by
      have z1' : (bkRo g.2.2.2.1 R a).1 = 1 := z1
      rw [bo_z hn y] at z1'
      dsimp only at z1'
      omega
    have z1' : (bkRo g.2.2.2.1 R a).1 = 1 := z1
    rw [bo_n hn h18] at z1'
    exact trO _ _ _ (pf.2.1 a z1' z2) (by decide) (by decide)
  · have hb' : 4 ≤ (bkRo g.2.2.2.1 R b).1 := hb
    show Ref0 _ _ b (bkRo g.2.2.2.1 R b)
    by_cases hin : R + 1 ≤ b ∧ b < R + 12
    · rw [bo_i hin]
      exact Or.inr (Or.inr (Or.inr (Or.inr (Or.inr (Or.inr (Or.inr (Or.inr ⟨b - (R + 1), by omega, by rw [hx0]; omega, by rw [hx0]; omega, rfl⟩)))))))
    by_cases h18 : (g.2.2.2.1 b).1 = 18
    · rw [bo_z hin h18] at hb'
      dsimp only at hb'
      omega
    rw [bo_n hin h18] at hb' ⊢
    rcases pf.2.2 b hb' with hp | hp | ⟨m, hm, -⟩ | hp | hp | hp | hp | ⟨q, q1, q2, hx, e1, e2⟩ | ⟨j, hj, hx, e1, e2⟩
    · exact Or.inl hp
    · exact Or.inr (Or.inl hp)
    · rw [n1] at hm
      exact absurd hm (Nat.not_lt_zero _)
    · exact Or.inr (Or.inr (Or.inr (Or.inl hp)))
    · exact Or.inr (Or.inr (Or.inr (Or.inr (Or.inl hp))))
    · exact Or.inr (Or.inr (Or.inr (Or.inr (Or.inr (Or.inl hp)))))
    · exact Or.inr (Or.inr (Or.inr (Or.inr (Or.inr (Or.inr (Or.inl hp))))))
    · exact Or.inr (Or.inr (Or.inr (Or.inr (Or.inr (Or.inr (Or.inr (Or.inl ⟨q, q1, q2, by rw [hxq q q1]; exact hx, by rw [hxq q q1]; exact e1, e2⟩)))))))
    · exact absurd (by rw [e2]) h18
  · by_cases hin : R + 1 ≤ b ∧ b < R + 12
    · have e : (dbG g P R).2.2.2.1 b = (18, b - (R + 1)) := bo_i hin
      unfold Cell
      rw [e]
      refine ⟨fun y => ?_, fun y => ?_, fun y => ?_, fun y => ?_, fun y => ?_, fun y => ?_, fun y => ?_, fun y => ?_, fun y => ?_, fun y => ?_, fun y => ?_, fun y => ?_, fun y => ?_, fun y => ?_, fun y => ?_, fun y => ?_, fun y => ?_, fun _ => ?_⟩
      rotate_right
      · obtain ⟨⟨c0, c1, c2, c3, c4⟩, -, -, -, d4, d5, d6, d7, d8, d9, d10, -⟩ := hc
        have hx0' : (dbX x yfaultPlace R).2 0 = R + 1 := rfl
        rw [hx0']
        have hbj : ∀ j, b - (R + 1) = j → b = R + (1 + j) := fun j hj => by omega
        refine ⟨fun y => ?_, fun y => ?_, fun y => ?_, fun y => ?_, fun y => ?_, fun y => ?_, fun y => ?_, fun y => ?_⟩
        · rw [hbj _ y]
          exact ⟨c0, c1, c2, c3, c4 3 (by omega), c4 4 (by omega), c4 5 (by omega), c4 6 (by omega), c4 7 (by omega), c4 8 (by omega), c4 9 (by omega)⟩
        · rw [hbj _ y]
          exact ⟨d4.1, d4.2.1, fun k hk => (d4.2.2 k hk).trans (by rw [← (kq1 k hk).1]; rfl)⟩
        · rw [hbj _ y]
          exact ⟨d5.1, d5.2.1, fun k hk => d5.2.2 k (Nat.lt_of_lt_of_le hk kr2)⟩
        · rw [hbj _ y]
          exact d6
        · rw [hbj _ y]
          exact ⟨d7.1, d7.2.1, fun k hk => d7.2.2 k (Nat.lt_of_lt_of_le hk ks2)⟩
        · rw [hbj _ y]
          exact d8
        · rw [hbj _ y]
          exact ⟨d9.1, d9.2.1, fun k hk i hi => d9.2.2 _ (by have h8 := (kq3 k hk).2.1; have hi' : i < P.2 2 k := hi; have hk' : k < P.1 2 := hk; omega)⟩
        · rw [hbj _ y]
          exact d10
      all_goals (exfalso; dsimp only at y; omega)
    by_cases h18 : (g.2.2.2.1 b).1 = 18
    · have e : (dbG g P R).2.2.2.1 b = (0, 0) := bo_z hin h18
      exact cell_0 (by rw [e])
    · have e : (dbG g P R).2.2.2.1 b = g.2.2.2.1 b := bo_n hin h18
      obtain ⟨c1, c2, c3, c4, c5, c6, c7, c8, c9, c10, c11, c12, c13, c14, c15, c16, c17, c18⟩ := hC b q1 q2
      unfold Cell
      rw [e]
      refine ⟨c1, c2, c3, c4, c5, fun y => ?_, c7, c8, c9, c10, c11, c12, c13, c14, c15, c16, c17, fun y => absurd y h18⟩
      have := (ref_lt (pf.2.2 b (by omega))).2.2.2.1 (by omega) (by omega)
      rw [n1] at this
      exact absurd this (Nat.not_lt_zero _)
  · have hm' : m < (g.1 0 1) := hm
    rw [n1] at hm'
    exact absurd hm' (Nat.not_lt_zero _)
  · have := vr.2.2 c hc hv
    rw [if_pos (n3 c hc)] at this
    exact (if_pos (n3 c hc)).symm ▸ this
  · obtain ⟨j1, j2, j3, j4, j5, j6, j7, j8, j9, j10, j11, j12⟩ := i1
    exact ⟨j1, j2, j3, j4, j5, j6, j7, j8, j9, ⟨kk1, kk2, kk3⟩, ⟨kr1, kr2⟩, ⟨ks1, ks2⟩⟩
  · have ho' : o < (g.1 0 4) := ho
    rw [n2] at ho'
    exact absurd ho' (Nat.not_lt_zero _)
  · have hm' : m < (g.1 0 1) := hm
    rw [n1] at hm'
    exact absurd hm' (Nat.not_lt_zero _)
  · have hm' : m < (g.1 0 1) := hm
    rw [n1] at hm'
    exact absurd hm' (Nat.not_lt_zero _)
  · have := i7.2.2 c hc hv
    rw [if_pos (n3 c hc)] at this
    exact (if_pos (n3 c hc)).symm ▸ this
  · obtain ⟨⟨k, j1, j1'⟩, j2⟩ := i8 f hf
    exact ⟨⟨k, Nat.lt_of_lt_of_le j1 (by rw [k1]; exact kk2), j1'⟩, j2⟩
  · obtain ⟨j1, j2, j3, j4, j5, j6, j7, j8, j9, j10, j11, j12, j13, j14, j15, j16, j17, j18, j19, j20, j21, j22, j23, j24⟩ := i9 c hc
    exact ⟨j1, j2, j3, j4, j5, j6, j7, j8, fun z => absurd (n3 c hc) z, j10, j11, j12, j13, j14, j15, j16, j17, j18, j19, j20, j21, j22, j23, fun z => absurd (n3 c hc) (j24 z).1⟩
  · obtain ⟨j1, j2, j3, j4, j5, j6⟩ := m3 c hc y
    exact ⟨j1, j2, j3, j4, j5, fun z => absurd (n3 c hc) z⟩
  · obtain ⟨j1, j2, j3⟩ := m4 c hc y
    refine ⟨j1, j2, ?_⟩
    rcases j3 with ⟨u1, u2, u3, u4⟩ | ⟨u1, u2, u3, u4, u5, u6⟩
    · refine Or.inl ⟨u1, u2, u3, ?_⟩
      rw [if_pos (n3 c hc)] at u4
      have e0 : ∀ z : Int32, (if (dbG g P R).2.2.2.2.2 17 c = 0 then (0 : Int32) else z) = 0 := fun z => if_pos (n3 c hc)
      rw [e0]
      exact (prs_0 u2).trans u4
    · refine Or.inr ⟨u1, u2, u3, u4, u5, fun i hi => ?_⟩
      obtain ⟨k, j1, j2⟩ := u6 i hi
      exact ⟨k, Nat.lt_of_lt_of_le j1 (by rw [k1]; exact kk2), j2⟩
end
