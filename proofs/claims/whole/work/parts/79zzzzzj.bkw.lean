/-! describe: what the reference has after it -/
section
variable {K : Nat → pcell} {tb : Nat} {g g' g2 : gS} {r r' r0 r1 r2 rb : rS} {x x' : xS} {h h' : pheap} {a n k m i c p q R : Nat} {P : pB}
def dsE (r : rS) (i0 i1 i2 i3 i4 i5 i6 i7 : Int32) (w : Int64) (f0 f1 f2 f3 f4 f5 f6 : Nat → Int32) (l0 l1 l2 l3 l4 : Nat → Int64) : rS := (upN (upN (upN (upN (upN (upN (upN (upN (r.1) 5 i0) 6 i1) 7 i2) 4 i3) 3 i4) 11 i5) 16 i6) 23 i7, w, upN (upN (upN (upN (upN (upN (upN (r.2.2.1) 76 f0) 78 f1) 80 f2) 82 f3) 84 f4) 85 f5) 86 f6, upN (upN (upN (upN (upN (r.2.2.2) 75 l0) 77 l1) 79 l2) 81 l3) 83 l4)
theorem ds_eq (hm : RB r' rb) : r' = dsE rb ((r'.1 5)) ((r'.1 6)) ((r'.1 7)) ((r'.1 4)) ((r'.1 3)) ((r'.1 11)) ((r'.1 16)) ((r'.1 23)) r'.2.1 ((r'.2.2.1 76)) ((r'.2.2.1 78)) ((r'.2.2.1 80)) ((r'.2.2.1 82)) ((r'.2.2.1 84)) ((r'.2.2.1 85)) ((r'.2.2.1 86)) ((r'.2.2.2 75)) ((r'.2.2.2 77)) ((r'.2.2.2 79)) ((r'.2.2.2 81)) ((r'.2.2.2 83)) := by
  obtain ⟨b1, b2, b3, b4⟩ := hm
  refine Prod.ext (funext fun k => ?_) (Prod.ext rfl (Prod.ext (funext fun a => ?_) (funext fun a => ?_)))
  · show _ = (upN (upN (upN (upN (upN (upN (upN (upN (rb.1) 5 _) 6 _) 7 _) 4 _) 3 _) 11 _) 16 _) 23 _) k
    by_cases e7 : k = 23
    · subst e7; rfl
    rw [upN_n _ _ e7]
    by_cases e6 : k = 16
    · subst e6; rfl
    rw [upN_n _ _ e6]
    by_cases e5 : k = 11
    · subst e5; rfl
    rw [upN_n _ _ e5]
    by_cases e4 : k = 3
    · subst e4; rfl
    rw [upN_n _ _ e4]
    by_cases e3 : k = 4
    · subst e3; rfl
    rw [upN_n _ _ e3]
    by_cases e2 : k = 7
    · subst e2; rfl
    rw [upN_n _ _ e2]
    by_cases e1 : k = 6
    · subst e1; rfl
    rw [upN_n _ _ e1]
    by_cases e0 : k = 5
    · subst e0; rfl
    rw [upN_n _ _ e0]
    exact b1 k e0 e1 e2 e3 e4 e5 e6 e7
  · show _ = (upN (upN (upN (upN (upN (upN (upN (rb.2.2.1) 76 _) 78 _) 80 _) 82 _) 84 _) 85 _) 86 _) a
    by_cases e6 : a = 86
    · subst e6; rfl
    rw [upN_n _ _ e6]
    by_cases e5 : a = 85
    · subst e5; rfl
    rw [upN_n _ _ e5]
    by_cases e4 : a = 84
    · subst e4; rfl
    rw [upN_n _ _ e4]
    by_cases e3 : a = 82
    · subst e3; rfl
    rw [upN_n _ _ e3]
    by_cases e2 : a = 80
    · subst e2; rfl
    rw [upN_n _ _ e2]
    by_cases e1 : a = 78
    · subst e1; rfl
    rw [upN_n _ _ e1]
    by_cases e0 : a = 76
    · subst e0; rfl
    rw [upN_n _ _ e0]
    exact b2 a e0 e1 e2 e3 e4 e5 e6
  · show _ = (upN (upN (upN (upN (upN (rb.2.2.2) 75 _) 77 _) 79 _) 81 _) 83 _) a
    by_cases e4 : a = 83
    · subst e4; rfl
    rw [upN_n _ _ e4]
    by_cases e3 : a = 81
    · subst e3; rfl
    rw [upN_n _ _ e3]
    by_cases e2 : a = 79
    · subst e2; rfl
    rw [upN_n _ _ e2]
    by_cases e1 : a = 77
    · subst e1; rfl
    rw [upN_n _ _ e1]
    by_cases e0 : a = 75
    · subst e0; rfl
    rw [upN_n _ _ e0]
    exact b3 a e0 e1 e2 e3 e4
theorem prs_0 {fc fc' : Nat → Nat} {fs fs' : Nat → Int32} {os os' : Nat → Nat} {no no' : Nat} {f : Nat → Int32} {l : List Nat} : ∀ n, prs fc fs os no f n [0] p l = prs fc' fs' os' no' f n [0] p l
  | 0 => rfl
  | 1 => rfl
  | _ + 2 => rfl
/-- there is nothing before a book -/
theorem no_bk (hw : World K tb g r x h) (hb : (r.1 2) = 0) : ((g.2.2.2.2.1 1) = 1 ∧ (g.2.2.2.2.1 2) = 0 ∧ (g.2.2.2.2.1 3) = 0 ∧ (r.2.2.1 76) 0 = 0) ∧ (g.1 0 1) = 0 ∧ (g.1 0 4) = 0 ∧ ∀ c, c < (g.1 0 5) → (g.2.2.2.2.2 17) c = 0 := by
  obtain ⟨-, ⟨i1, i2, i3, i4, i5, i6, i7, i8, i9, i10⟩, -⟩ := hw
  obtain ⟨e1, e2, e3, e4⟩ := i3.2.1 hb
  have n1 : (g.1 0 1) = 0 := by
    by_cases y : 0 < (g.1 0 1)
    · have := (i6 0 y).2
      omega
    · omega
  have n2 : (g.1 0 4) = 0 := by
    by_cases y : 0 < (g.1 0 4)
    · have := (i5 0 y).2.2.2.1
      omega
    · omega
  exact ⟨⟨e1, e2, e3, e4⟩, n1, n2, fun c hc => by have := (i9 c hc).2.2.2.2.2.1; omega⟩
theorem fx_up {tape written slots : Nat → Int32} (h1 : FxT g x tape written) (h2 : FxL g x) (h3 : FxW g x slots) (e2 : ∀ q, 1 ≤ q → q < 7 → x'.2 q = x.2 q) (e1 : ∀ a k, ¬ (a = 5 ∧ (k = 3 ∨ k = 4)) → x'.1 a k = x.1 a k) : FxT g x' tape written ∧ FxL g x' ∧ FxW g x' slots := by
  obtain ⟨t1, t2, t3, t4⟩ := h1
  obtain ⟨w1, w2, w3, w5, w4⟩ := h3
  refine ⟨⟨?_, fun k hk => ?_, ?_, fun k hk => ?_⟩, fun q q1 q2 => ⟨?_, fun y => (h2 q q1 q2).2 ((e2 q q1 q2).symm.trans y)⟩, ⟨?_, fun i hi => ⟨?_, (w2 i hi).2⟩, w3, w5, fun i hi => ⟨?_, fun k hk => ?_⟩⟩⟩
  · rw [e1 _ _ (by omega)]; exact t1
  · rw [e1 _ _ (by omega)]; exact t2 k hk
  · rw [e1 _ _ (by omega)]; exact t3
  · rw [e1 _ _ (by omega)]; exact t4 k hk
  · rw [e1 _ _ (by omega)]; exact (h2 q q1 q2).1
  · rw [e1 _ _ (by omega)]; exact w1
  · rw [e1 _ _ (by omega)]; exact (w2 i hi).1
  · rw [e1 _ _ (by omega)]; exact (w4 i hi).1
  · rw [e1 _ _ (by omega)]; exact (w4 i hi).2 k hk
def dfR (r : rS) : rS := sI (sI (sI (sI r 1 0) 11 1) 16 0) 23 0
theorem cBk_0 {b kn : Nat} {fc mc wa fc' mc' wa' : Nat → Nat} {ko fs ms ws ko' fs' ms' ws' : Nat → Int32} {j : Nat} {c : pcell} (h1 : kn = 1) (h2 : ko' 0 = ko 0) (hc : cBk b kn 0 0 fc mc wa ko fs ms ws j c) : cBk b kn 0 0 fc' mc' wa' ko' fs' ms' ws' j c := by
  obtain ⟨c0, c4, c5, c6, c7, c8, c9, c10⟩ := hc
  refine ⟨c0, fun y => ⟨(c4 y).1, (c4 y).2.1, fun k hk => ?_⟩, fun y => ⟨(c5 y).1, (c5 y).2.1, fun k hk => ?_⟩, fun y => ⟨(c6 y).1, (c6 y).2.1, fun k hk => ?_⟩, fun y => ⟨(c7 y).1, (c7 y).2.1, fun k hk => ?_⟩, fun y => ⟨(c8 y).1, (c8 y).2.1, fun k hk => ?_⟩, fun y => ⟨(c9 y).1, (c9 y).2.1, fun k hk => ?_⟩, fun y => ⟨(c10 y).1, (c10 y).2.1, fun k hk => ?_⟩⟩
  · obtain rfl : k = 0 := by omega
    rw [h2]
    exact (c4 y).2.2 0 hk
  all_goals exact absurd hk (Nat.not_lt_zero _)
/-- a text that stumbles leaves no book -/
theorem w_fault (hw : World K tb g (sI r 1 0) x h) (hb : (r.1 2) = 0) (hr : RB r' r) : World K tb g (dfR r') (tI x 5 4 ((r'.1 3))) h := by
  obtain ⟨⟨k1, k2, k3, k4⟩, n1, n2, n3⟩ := no_bk hw hb
  have b4 := hr.2.2.2
  have hE := ds_eq hr
  revert hE b4
  generalize (r'.1 5) = yat
  generalize (r'.1 6) = yfrom
  generalize (r'.1 7) = ytoken
  generalize (r'.1 4) = yfault
  generalize (r'.1 3) = yfaultPlace
  generalize (r'.1 11) = ykinds
  generalize (r'.1 16) = yrecords
  generalize (r'.1 23) = yservices
  generalize (r'.2.2.1 76) = ykindOf
  generalize (r'.2.2.1 78) = yfields
  generalize (r'.2.2.1 80) = yfieldSorts
  generalize (r'.2.2.1 82) = ymethods
  generalize (r'.2.2.1 84) = ymethodSorts
  generalize (r'.2.2.1 85) = ywanted
  generalize (r'.2.2.1 86) = ywantedSorts
  generalize (r'.2.2.2 75) = ykindNames
  generalize (r'.2.2.2 77) = yrecordNames
  generalize (r'.2.2.2 79) = yfieldNames
  generalize (r'.2.2.2 81) = yserviceNames
  generalize (r'.2.2.2 83) = ymethodNames
  generalize r'.2.1 = yw
  intro b4 hE
  subst hE
  obtain ⟨⟨s0, pf, hC, bk, vr, kp, ft, flx, fw, fx⟩, ⟨i1, i2, i3, i4, i5, i6, i7, i8, i9, i10⟩, ⟨m1, m2, m3, m4, m5⟩⟩ := hw
  obtain ⟨ft', fl', fw'⟩ := fx_up (x' := tI x 5 4 yfaultPlace) ft flx fw (fun q _ _ => rfl) (fun a k y => tI_ne _ _ (by omega))
  refine ⟨⟨s0, pf, fun b q1 q2 => ?_, ?_, ⟨vr.1, fun m hm => ?_, fun c hc hv => ?_⟩, kp, ft', fl', fw', ⟨(tI_ne _ _ (by omega)).trans fx.1, tI_s _ _ _ _, (tI_ne _ _ (by omega)).trans fx.2.2.1, (tI_ne _ _ (by omega)).trans fx.2.2.2⟩⟩, ⟨?_, i2, ⟨i3.1, fun _ => ⟨k1, k2, k3, b4.trans k4⟩, fun k hk => ?_, fun k hk => ?_, fun k hk => ?_⟩, i4, i5, i6, ⟨i7.1, fun m hm => ?_, fun c hc hv => ?_⟩, i8, fun c hc => ?_, i10⟩, ⟨m1, m2, fun c hc y => ?_, fun c hc y => ?_, m5⟩⟩
  · obtain ⟨c1, c2, c3, c4, c5, c6, c7, c8, c9, c10, c11, c12, c13, c14, c15, c16, c17, c18⟩ := hC b q1 q2
    refine ⟨c1, c2, c3, c4, c5, c6, c7, c8, c9, c10, c11, c12, c13, c14, c15, c16, c17, fun y => ?_⟩
    have := c18 y
    rw [k2, k3] at this ⊢
    exact cBk_0 k1 b4 this
  · rcases bk with ⟨u1, u2⟩ | u1
    · refine Or.inl ⟨u1, fun j hj => ?_⟩
      have := u2 j hj
      rw [k2, k3] at this ⊢
      exact cBk_0 k1 b4 this
    · exact Or.inr u1
  · rw [n1] at hm
    exact absurd hm (Nat.not_lt_zero _)
  · have := vr.2.2 c hc hv
    rw [if_pos (n3 c hc)] at this ⊢
    exact this
  · obtain ⟨j1, j2, j3, j4, j5, j6, j7, j8, j9, j10, j11, j12⟩ := i1
    exact ⟨j1, j2, j3, j4, j5, j6, j7, j8, j9, ⟨by rw [k1]; rfl, j10.2⟩, ⟨by rw [k2]; rfl, j11.2⟩, ⟨by rw [k3]; rfl, j12.2⟩⟩
  · have hk' := hk
    rw [k1] at hk'
    obtain rfl : k = 0 := by omega
    exact ⟨b4.trans (i3.2.2.1 0 hk).1, Or.inl rfl⟩
  · rw [k2] at hk
    exact absurd hk (Nat.not_lt_zero _)
  · rw [k3] at hk
    exact absurd hk (Nat.not_lt_zero _)
  · rw [n1] at hm
    exact absurd hm (Nat.not_lt_zero _)
  · have := i7.2.2 c hc hv
    rw [if_pos (n3 c hc)] at this ⊢
    exact this
  · obtain ⟨j1, j2, j3, j4, j5, j6, j7, j8, j9, j10, j11, j12, j13, j14, j15, j16, j17, j18, j19, j20, j21, j22, j23, j24⟩ := i9 c hc
    exact ⟨j1, j2, j3, j4, j5, j6, j7, j8, j9, j10, j11, j12, j13, j14, j15, j16, j17, j18, j19, j20, j21, j22, j23, fun z => absurd (n3 c hc) (j24 z).1⟩
  · obtain ⟨j1, j2, j3, j4, j5, j6⟩ := m3 c hc y
    exact ⟨j1, j2, j3, j4, j5, fun z => absurd (n3 c hc) z⟩
  · obtain ⟨j1, j2, j3⟩ := m4 c hc y
    refine ⟨j1, j2, ?_⟩
    rcases j3 with ⟨u1, u2, u3, u4⟩ | u
    · refine Or.inl ⟨u1, u2, u3, ?_⟩
      rw [if_pos (n3 c hc)] at u4 ⊢
      exact (prs_0 u2).trans u4
    · exact Or.inr u
end
