/-! what no promise rests on: the reference's places to work in -/
section
variable {K : Nat → pcell} {tb : Nat} {g g' : gS} {r r' r0 r1 r2 : rS} {x x' : xS} {h h' : pheap} {a n k m i c p q : Nat}
def kc (c : Nat) : Prop := c < 363 ∨ (543 ≤ c ∧ c < 603)
def SC (r' r : rS) : Prop := (∀ k, k ≠ 81 → k ≠ 82 → k ≠ 84 → k ≠ 87 → k ≠ 78 → k ≠ 88 → k ≠ 89 → k ≠ 90 → r'.1 k = r.1 k) ∧ r'.2.1 = r.2.1 ∧ (∀ a, a ≠ 134 → a ≠ 135 → a ≠ 136 → a ≠ 137 → a ≠ 133 → a ≠ 138 → a ≠ 145 → a ≠ 131 → a ≠ 132 → a ≠ 88 → a ≠ 89 → r'.2.2.1 a = r.2.2.1 a) ∧ (∀ a, a ≠ 87 → r'.2.2.2 a = r.2.2.2 a) ∧ (∀ j, j < 60 → (r'.2.2.1 131) j = (r.2.2.1 131) j) ∧ (∀ k, k < 3600 → (r'.2.2.1 132) k = (r.2.2.1 132) k) ∧ ∀ c, kc c → (r'.2.2.2 87) c = (r.2.2.2 87) c ∧ (r'.2.2.1 88) c = (r.2.2.1 88) c ∧ ∀ k, k < 16 → (r'.2.2.1 89) (16 * c + k) = (r.2.2.1 89) (16 * c + k)
def scE (r : rS) (i0 i1 i2 i3 i4 i5 i6 i7 : Int32) (f0 f1 f2 f3 f4 f5 f6 f7 f8 f9 f10 : Nat → Int32) (N : Nat → Int64) : rS := (upN (upN (upN (upN (upN (upN (upN (upN (r.1) 81 i0) 82 i1) 84 i2) 87 i3) 78 i4) 88 i5) 89 i6) 90 i7, r.2.1, upN (upN (upN (upN (upN (upN (upN (upN (upN (upN (upN (r.2.2.1) 134 f0) 135 f1) 136 f2) 137 f3) 133 f4) 138 f5) 145 f6) 131 f7) 132 f8) 88 f9) 89 f10, upN r.2.2.2 87 N)
theorem scr_eq (hm : SC r' r) : r' = scE r ((r'.1 81)) ((r'.1 82)) ((r'.1 84)) ((r'.1 87)) ((r'.1 78)) ((r'.1 88)) ((r'.1 89)) ((r'.1 90)) ((r'.2.2.1 134)) ((r'.2.2.1 135)) ((r'.2.2.1 136)) ((r'.2.2.1 137)) ((r'.2.2.1 133)) ((r'.2.2.1 138)) ((r'.2.2.1 145)) ((r'.2.2.1 131)) ((r'.2.2.1 132)) ((r'.2.2.1 88)) ((r'.2.2.1 89)) ((r'.2.2.2 87)) := by
  refine Prod.ext (funext fun k => ?_) (Prod.ext hm.2.1 (Prod.ext (funext fun a => ?_) (funext fun a => ?_)))
  · show _ = (upN (upN (upN (upN (upN (upN (upN (upN (r.1) 81 _) 82 _) 84 _) 87 _) 78 _) 88 _) 89 _) 90 _) k
    by_cases e7 : k = 90
    · subst e7; rfl
    rw [upN_n _ _ e7]
    by_cases e6 : k = 89
    · subst e6; rfl
    rw [upN_n _ _ e6]
    by_cases e5 : k = 88
    · subst e5; rfl
    rw [upN_n _ _ e5]
    by_cases e4 : k = 78
    · subst e4; rfl
    rw [upN_n _ _ e4]
    by_cases e3 : k = 87
    · subst e3; rfl
    rw [upN_n _ _ e3]
    by_cases e2 : k = 84
    · subst e2; rfl
    rw [upN_n _ _ e2]
    by_cases e1 : k = 82
    · subst e1; rfl
    rw [upN_n _ _ e1]
    by_cases e0 : k = 81
    · subst e0; rfl
    rw [upN_n _ _ e0]
    exact hm.1 k e0 e1 e2 e3 e4 e5 e6 e7
  · show _ = (upN (upN (upN (upN (upN (upN (upN (upN (upN (upN (upN (r.2.2.1) 134 _) 135 _) 136 _) 137 _) 133 _) 138 _) 145 _) 131 _) 132 _) 88 _) 89 _) a
    by_cases e10 : a = 89
    · subst e10; rfl
    rw [upN_n _ _ e10]
    by_cases e9 : a = 88
    · subst e9; rfl
    rw [upN_n _ _ e9]
    by_cases e8 : a = 132
    · subst e8; rfl
    rw [upN_n _ _ e8]
    by_cases e7 : a = 131
    · subst e7; rfl
    rw [upN_n _ _ e7]
    by_cases e6 : a = 145
    · subst e6; rfl
    rw [upN_n _ _ e6]
    by_cases e5 : a = 138
    · subst e5; rfl
    rw [upN_n _ _ e5]
    by_cases e4 : a = 133
    · subst e4; rfl
    rw [upN_n _ _ e4]
    by_cases e3 : a = 137
    · subst e3; rfl
    rw [upN_n _ _ e3]
    by_cases e2 : a = 136
    · subst e2; rfl
    rw [upN_n _ _ e2]
    by_cases e1 : a = 135
    · subst e1; rfl
    rw [upN_n _ _ e1]
    by_cases e0 : a = 134
    · subst e0; rfl
    rw [upN_n _ _ e0]
    exact hm.2.2.1 a e0 e1 e2 e3 e4 e5 e6 e7 e8 e9 e10
  · show _ = (upN r.2.2.2 87 _) a
    by_cases e0 : a = 87
    · subst e0; rfl
    rw [upN_n _ _ e0]
    exact hm.2.2.2.1 a e0
theorem w_scE (hw : World K tb g r x h) {i0 i1 i2 i3 i4 i5 i6 i7 : Int32} {f0 f1 f2 f3 f4 f5 f6 f7 f8 f9 f10 : Nat → Int32} {N : Nat → Int64} (h7 : ∀ j, j < 60 → f7 j = (r.2.2.1 131) j) (h8 : ∀ k, k < 3600 → f8 k = (r.2.2.1 132) k) (hN : ∀ c, kc c → N c = (r.2.2.2 87) c) (h9 : ∀ c, kc c → f9 c = (r.2.2.1 88) c) (h10 : ∀ c, kc c → ∀ k, k < 16 → f10 (16 * c + k) = (r.2.2.1 89) (16 * c + k)) : World K tb g (scE r i0 i1 i2 i3 i4 i5 i6 i7 f0 f1 f2 f3 f4 f5 f6 f7 f8 f9 f10 N) x h := by
  obtain ⟨n1, n2, n3⟩ := w_nc hw
  obtain ⟨⟨s0, pf, hC, bk, vr, kp, ft, flx, fw, fx⟩, ⟨i1, i2, i3, i4, i5, i6, i7, i8, i9, i10⟩, ⟨m1, m2, m3, m4, m5⟩⟩ := hw
  have hnh : (g.1 0 0) ≤ 3 := i1.2.2.1.2
  have hnn : (g.1 0 1) ≤ 60 := i1.2.2.2.1.2
  have hf6 : ∀ j, j < (g.1 0 1) → (g.2.2.2.2.2 8) ((g.2.2.2.2.2 11) j) ≤ 6 := fun j hj => (i3.2.2.2.1 _ (i6 j hj).2).2.1
  refine ⟨⟨s0, pf, hC, bk, ⟨fun k hk => ?_, fun j hj i hi => ?_, fun c hc hv => ?_⟩, fun c hc => ?_, ft, flx, fw, fx⟩, ⟨i1, i2, i3, i4, i5, i6, ⟨fun k hk => ?_, fun j hj i hi => ?_, fun c hc hv => ?_⟩, i8, fun c hc => ?_, i10⟩, ⟨m1, m2, m3, m4, m5⟩⟩
  · have hk1 : kc k := Or.inl (by omega)
    exact VR_c (g := g) (hN _ hk1) (h9 _ hk1) (fun y hy => h10 _ hk1 y hy) rfl rfl (vr.1 k hk)
  · have hk1 : kc (3 + (6 * j + i)) := Or.inl (by have := hf6 j hj; omega)
    exact VR_c (g := g) (hN _ hk1) (h9 _ hk1) (fun y hy => h10 _ hk1 y hy) rfl rfl (vr.2.1 j hj i hi)
  · have hk1 : kc (543 + c) := Or.inr (by omega)
    exact VR_c (g := g) (hN _ hk1) (h9 _ hk1) (fun y hy => h10 _ hk1 y hy) rfl rfl (vr.2.2 c hc hv)
  · obtain ⟨k1, k2, k3, k4, k5, k6, k7⟩ := kp c hc
    refine ⟨k1, k2, k3, k4, k5, k6, fun z => ⟨(k7 z).1, fun k hk => ?_⟩⟩
    have hm := (i9 c hc).2.2.2.2.2.2.2.2.2.2.2.2.2.2.2.2.2.2.2.2.2.1
    exact ((k7 z).2 k hk).trans (h8 _ (by omega)).symm
  · have hk1 : kc k := Or.inl (by omega)
    show _ ∧ VV _ _ _ _ (N _) _
    rw [hN _ hk1]
    exact i7.1 k hk
  · have hk1 : kc (3 + (6 * j + i)) := Or.inl (by have := hf6 j hj; omega)
    show VV _ _ _ _ (N _) _
    rw [hN _ hk1]
    exact i7.2.1 j hj i hi
  · have hk1 : kc (543 + c) := Or.inr (by omega)
    show VV _ _ _ _ (N _) _
    rw [hN _ hk1]
    exact i7.2.2 c hc hv
  · obtain ⟨u1, u2, u3, u4, u5, u6, u7, u8, u9, u10, u11, u12, u13, u14, u15, u16, u17, u18, u19, u20, u21, u22, u23⟩ := i9 c hc
    exact ⟨u1, u2, u3, u4, u5, u6, u7, u8, u9, u10, u11, u12, u13, u14, u15, u16, u17, u18, u19, u20, (h7 c (by omega)).trans u21, u22, u23⟩
theorem w_sc (hw : World K tb g r x h) (hm : SC r' r) : World K tb g r' x h := by
  rw [scr_eq hm]
  exact w_scE hw hm.2.2.2.2.1 hm.2.2.2.2.2.1 (fun c hc => (hm.2.2.2.2.2.2 c hc).1) (fun c hc => (hm.2.2.2.2.2.2 c hc).2.1) (fun c hc => (hm.2.2.2.2.2.2 c hc).2.2)
theorem sc_r (r : rS) : SC r r := ⟨fun _ _ _ _ _ _ _ _ _ => rfl, rfl, fun _ _ _ _ _ _ _ _ _ _ _ _ => rfl, fun _ _ => rfl, fun _ _ => rfl, fun _ _ => rfl, fun _ _ => ⟨rfl, rfl, fun _ _ => rfl⟩⟩
theorem sc_t (h1 : SC r r1) (h2 : SC r1 r2) : SC r r2 := ⟨fun k q0 q1 q2 q3 q4 q5 q6 q7 => (h1.1 k q0 q1 q2 q3 q4 q5 q6 q7).trans (h2.1 k q0 q1 q2 q3 q4 q5 q6 q7), h1.2.1.trans h2.2.1, fun a q0 q1 q2 q3 q4 q5 q6 q7 q8 q9 q10 => (h1.2.2.1 a q0 q1 q2 q3 q4 q5 q6 q7 q8 q9 q10).trans (h2.2.2.1 a q0 q1 q2 q3 q4 q5 q6 q7 q8 q9 q10), fun a ha => (h1.2.2.2.1 a ha).trans (h2.2.2.2.1 a ha), fun j hj => (h1.2.2.2.2.1 j hj).trans (h2.2.2.2.2.1 j hj), fun k hk => (h1.2.2.2.2.2.1 k hk).trans (h2.2.2.2.2.2.1 k hk), fun c hc => ⟨(h1.2.2.2.2.2.2 c hc).1.trans (h2.2.2.2.2.2.2 c hc).1, (h1.2.2.2.2.2.2 c hc).2.1.trans (h2.2.2.2.2.2.2 c hc).2.1, fun k hk => ((h1.2.2.2.2.2.2 c hc).2.2 k hk).trans ((h2.2.2.2.2.2.2 c hc).2.2 k hk)⟩⟩
theorem sc_rm (hm : RM r' r) : SC r' r := ⟨fun k q0 q1 q2 q3 q4 q5 q6 q7 => hm.1 k q0 q1 q2 q3, hm.2.1, fun a q0 q1 q2 q3 q4 q5 q6 q7 q8 q9 q10 => hm.2.2.1 a q0 q1 q2 q3, fun a _ => by rw [hm.2.2.2], fun j _ => by rw [hm.2.2.1 131 (by decide) (by decide) (by decide) (by decide)], fun k _ => by rw [hm.2.2.1 132 (by decide) (by decide) (by decide) (by decide)], fun c _ => ⟨by rw [hm.2.2.2], by rw [hm.2.2.1 88 (by decide) (by decide) (by decide) (by decide)], fun k _ => by rw [hm.2.2.1 89 (by decide) (by decide) (by decide) (by decide)]⟩⟩
/-- one cell that is not kept, from another -/
theorem sc_cp (hq : ¬ kc q) : SC (cpR r p q) r := by
  refine ⟨fun _ _ _ _ _ _ _ _ _ => rfl, rfl, fun a q0 q1 q2 q3 q4 q5 q6 q7 q8 q9 q10 => ?_, fun a ha => upN_n _ _ ha, fun _ _ => rfl, fun _ _ => rfl, fun c hc => ?_⟩
  · unfold cpR
    rw [sR_n _ _ q10, sA_a _ _ _ q9]
    rfl
  · have hcq : c ≠ q := fun z => hq (z ▸ hc)
    refine ⟨upN_n _ _ hcq, upN_n _ _ hcq, fun k hk => ?_⟩
    exact wrF_o ((r.2.2.1 89)) (fun k => (r.2.2.1 89) (16 * p + k)) (s := 16 * q) (j := 16) (k := 16 * c + k) (by omega)
theorem sc_fail (v : Int32) : SC (sI r 78 v) r := ⟨fun k q0 q1 q2 q3 q4 q5 q6 q7 => sI_n _ _ q4, rfl, fun _ _ _ _ _ _ _ _ _ _ _ _ => rfl, fun _ _ => rfl, fun _ _ => rfl, fun _ _ => rfl, fun _ _ => ⟨rfl, rfl, fun _ _ => rfl⟩⟩
end
