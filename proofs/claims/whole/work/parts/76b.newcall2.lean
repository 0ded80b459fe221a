/-- what is read lies ahead of the place where it ends -/
theorem prs_le {fc : Nat → Nat} {fs : Nat → Int32} {os : Nat → Nat} {no : Nat} {f : Nat → Int32} : ∀ n t p l q l', prs fc fs os no f n t p l = some (q, l') → p ≤ q
  | 0, _, _, _, _, _, hp => by cases hp
  | n + 1, [], p, l, q, l', hp => by
    unfold prs at hp
    cases hp
    exact Nat.le_refl _
  | n + 1, s :: t, p, l, q, l', hp => by
    have ih := prs_le (fc := fc) (fs := fs) (os := os) (no := no) (f := f) n
    unfold prs at hp
    split at hp
    · have := ih _ _ _ _ _ hp; omega
    split at hp
    · have := ih _ _ _ _ _ hp; omega
    split at hp
    · split at hp
      · have := ih _ _ _ _ _ hp; omega
      · cases hp
    split at hp
    · split at hp
      · have := ih _ _ _ _ _ hp; omega
      · split at hp
        · have := ih _ _ _ _ _ hp; omega
        · cases hp
    split at hp
    · split at hp
      · have := ih _ _ _ _ _ hp; omega
      · split at hp
        · have := ih _ _ _ _ _ hp; omega
        · cases hp
    split at hp
    · have := ih _ _ _ _ _ hp; omega
    split at hp
    · split at hp
      · have := ih _ _ _ _ _ hp; omega
      · cases hp
    split at hp
    · have := ih _ _ _ _ _ hp; omega
    · cases hp
theorem prs_f {fc : Nat → Nat} {fs : Nat → Int32} {os : Nat → Nat} {no : Nat} {f f' : Nat → Int32} {q : Nat} (hf : ∀ k, k < q → f' k = f k) : ∀ n t p l l', prs fc fs os no f n t p l = some (q, l') → prs fc fs os no f' n t p l = some (q, l')
  | 0, _, _, _, _, hp => by cases hp
  | n + 1, [], p, l, l', hp => hp
  | n + 1, s :: t, p, l, l', hp => by
    have ih := prs_f (fc := fc) (fs := fs) (os := os) (no := no) hf n
    have hle := fun t p l (h : prs fc fs os no f n t p l = some (q, l')) => prs_le _ _ _ _ _ _ h
    unfold prs at hp ⊢
    by_cases h0 : s = 0
    · rw [if_pos h0] at hp ⊢; exact ih _ _ _ _ hp
    rw [if_neg h0] at hp ⊢
    by_cases h1 : s = 1 ∨ s = 2
    · rw [if_pos h1] at hp ⊢; exact ih _ _ _ _ hp
    rw [if_neg h1] at hp ⊢
    by_cases h3 : s = 3
    · rw [if_pos h3] at hp ⊢
      by_cases c : f p = 0 ∨ f p = 1
      · rw [if_pos c] at hp
        have := hle _ _ _ hp
        rw [hf p (by omega), if_pos c]; exact ih _ _ _ _ hp
      · rw [if_neg c] at hp; cases hp
    rw [if_neg h3] at hp ⊢
    by_cases h4 : s = 4
    · rw [if_pos h4] at hp ⊢
      by_cases c : f p = 255
      · rw [if_pos c] at hp
        have := hle _ _ _ hp
        rw [hf p (by omega), if_pos c]; exact ih _ _ _ _ hp
      · rw [if_neg c] at hp
        by_cases c2 : f p ≤ 16
        · rw [if_pos c2] at hp
          have := hle _ _ _ hp
          rw [hf p (by omega), if_neg c, if_pos c2]; exact ih _ _ _ _ hp
        · rw [if_neg c2] at hp; cases hp
    rw [if_neg h4] at hp ⊢
    by_cases h5 : 20 ≤ s
    · rw [if_pos h5] at hp ⊢
      by_cases c : f p = 255
      · rw [if_pos c] at hp
        have := hle _ _ _ hp
        rw [hf p (by omega), if_pos c]; exact ih _ _ _ _ hp
      · rw [if_neg c] at hp
        by_cases c2 : (f p).toNatClampNeg < no ∧ s = nI (20 + os (f p).toNatClampNeg)
        · rw [if_pos c2] at hp
          have := hle _ _ _ hp
          rw [hf p (by omega), if_neg c, if_pos c2]
          exact ih _ _ _ _ hp
        · rw [if_neg c2] at hp; cases hp
    rw [if_neg h5] at hp ⊢
    by_cases h6 : f p = 255
    · rw [if_pos h6] at hp
      have := hle _ _ _ hp
      rw [hf p (by omega), if_pos h6]; exact ih _ _ _ _ hp
    rw [if_neg h6] at hp
    by_cases h7 : f p = 254
    · rw [if_pos h7] at hp
      by_cases c : l[(f (p + 1)).toNatClampNeg]? = some (s - 10).toNatClampNeg
      · rw [if_pos c] at hp
        have := hle _ _ _ hp
        rw [hf p (by omega), if_neg h6, if_pos h7, hf (p + 1) (by omega), if_pos c]; exact ih _ _ _ _ hp
      · rw [if_neg c] at hp; cases hp
    rw [if_neg h7] at hp
    by_cases h8 : f p = 253 ∧ l.length < 12
    · rw [if_pos h8] at hp
      have := hle _ _ _ hp
      rw [hf p (by omega), if_neg h6, if_neg h7, if_pos h8]; exact ih _ _ _ _ hp
    · rw [if_neg h8] at hp; cases hp
section
variable {K : Nat → pcell} {tb : Nat} {g g' g0 g1 : gS} {r r' r0 r1 r2 s' : rS} {x x' x1 x2 xb : xS} {h h' h1 : pheap} {d : Nat} {Q : Option Value → pheap → Prop} {a n k m i j b ca sv ob cm ou rz : Nat}
/-- the rows of a call that is new, and of the others -/
def Cl1 (r' r : rS) (n : Nat) : Prop := (∀ j, j ≠ n → (r'.2.2.1 114) j = (r.2.2.1 114) j ∧ (r'.2.2.1 115) j = (r.2.2.1 115) j ∧ (r'.2.2.1 116) j = (r.2.2.1 116) j ∧ (r'.2.2.1 117) j = (r.2.2.1 117) j ∧ (r'.2.2.1 118) j = (r.2.2.1 118) j ∧ (r'.2.2.1 119) j = (r.2.2.1 119) j ∧ (r'.2.2.1 120) j = (r.2.2.1 120) j ∧ (r'.2.2.1 121) j = (r.2.2.1 121) j ∧ (r'.2.2.1 122) j = (r.2.2.1 122) j ∧ (r'.2.2.1 124) j = (r.2.2.1 124) j ∧ (r'.2.2.1 125) j = (r.2.2.1 125) j ∧ (r'.2.2.1 126) j = (r.2.2.1 126) j ∧ (r'.2.2.1 129) j = (r.2.2.1 129) j ∧ (r'.2.2.1 130) j = (r.2.2.1 130) j ∧ (r'.2.2.1 131) j = (r.2.2.1 131) j) ∧ (∀ j, j ≠ n → j ≠ 60 + n → (r'.2.2.1 143) j = (r.2.2.1 143) j ∧ (r'.2.2.1 144) j = (r.2.2.1 144) j) ∧ (∀ k, k < 240 * n ∨ 240 * n + 240 ≤ k → (r'.2.2.1 123) k = (r.2.2.1 123) k) ∧ ∀ c, c < 363 ∨ (543 ≤ c ∧ c < 603) → (r'.2.2.2 87) c = (r.2.2.2 87) c ∧ (r'.2.2.1 88) c = (r.2.2.1 88) c ∧ ∀ k, k < 16 → (r'.2.2.1 89) (16 * c + k) = (r.2.2.1 89) (16 * c + k)
def Cl2 (r' : rS) (time : Int32) (n ca sv ob cm ou rz : Nat) : Prop := (r'.1 57) = nI (n + 1) ∧ (r'.2.2.1 114) n = nI ca ∧ (r'.2.2.1 115) n = (if ob = 0 then -1 else nI (ob - 1)) ∧ (r'.2.2.1 116) n = nI cm ∧ (r'.2.2.1 117) n = nI sv ∧ (r'.2.2.1 118) n = 0 ∧ (r'.2.2.1 119) n = (if ou = 0 then -1 else nI (ou - 1)) ∧ (r'.2.2.1 120) n = (if ou = 0 then 0 else 1) ∧ (r'.2.2.1 121) n = 0 ∧ (r'.2.2.1 122) n = time ∧ (r'.2.2.1 125) n = 0 ∧ (r'.2.2.1 126) n = 0 ∧ (r'.2.2.1 131) n = 0 ∧ ((r'.2.2.1 143) n = 0 ∧ (r'.2.2.1 143) (60 + n) = 0 ∧ (r'.2.2.1 144) n = 0 ∧ (r'.2.2.1 144) (60 + n) = 0) ∧ (r'.2.2.1 124) n = nI rz
/-- what its request is -/
def Cl3 (g : gS) (r' r : rS) (n ca sv ob cm rz : Nat) : Prop := 3 ≤ rz ∧ (∀ k, k < rz → isB ((r'.2.2.1 123) (240 * n + k))) ∧ (r'.2.2.1 123) (240 * n + 1) = nI cm ∧ (∃ a b, a ≤ b ∧ b ≤ 200 ∧ (r'.2.2.1 123) (240 * n + 2) = nI a ∧ (r.2.2.1 93) sv = nI b) ∧
  (ob = 0 → rz = 5 ∧ (r'.2.2.1 123) (240 * n) = 250 ∧ ∃ m, 1 ≤ m ∧ m ≤ 1000 ∧ (r'.2.2.1 123) (240 * n + 3) = nI (m / 256) ∧ (r'.2.2.1 123) (240 * n + 4) = nI (m % 256) ∧ (r'.2.2.1 129) n = nI m) ∧
  (ob ≠ 0 → (r'.2.2.1 123) (240 * n) = nI (ob - 1) ∧ ∃ m l, prs ((g.2.2.2.2.2 8)) ((r.2.2.1 80)) ((g.2.2.2.2.2 13)) (g.1 0 4) (fun k => (r'.2.2.1 123) (240 * n + k)) m ((List.range ((g.2.2.2.2.2 10) (8 * (g.2.2.2.2.2 13) (ob - 1) + cm))).map (fun a => (r.2.2.1 86) (3 * (8 * (g.2.2.2.2.2 13) (ob - 1) + cm) + a))) 3 [] = some (rz, l))
theorem w_call (hw : World K tb g r x h) (hn : n = (g.1 0 5)) (hn60 : n < 60) (he : 146 ≤ x.2 6) (hcap : n < (h.2.2 (x.2 6)).2.1) (ha : 146 ≤ a) (ha2 : a < h.1) (hro : g.2.2.2.1 a = (0, 0)) (hcx : CLx r' r) (h1 : Cl1 r' r n) (h2 : Cl2 r' ((r.1 75)) n ca sv ob cm ou rz)
    (hmv : (r'.2.2.1 130) n = 0 ∨ ((r'.2.2.1 130) n = 1 ∧ ob = 0 ∧ ∃ q, 1 ≤ q ∧ q ≤ 1000 ∧ (r'.2.2.1 129) n = nI q)) (hca : ca < (g.1 0 3)) (hsv : sv < (g.1 0 3)) (hob : ob ≤ (g.1 0 4) ∧ (ob = 0 → cm < 4 ∧ ca ≠ sv) ∧ (ob ≠ 0 → cm < (g.2.2.2.2.2 9) ((g.2.2.2.2.2 13) (ob - 1)) ∧ sv = (g.2.2.2.2.2 12) (ob - 1))) (hou : ou ≤ n)
    (hloc : ca = sv → b = 0 ∧ rz = 0) (hrem : ca ≠ sv → okP g.2.2.2.1 h.1 b (2, 0) ∧ rz ≤ 240 ∧ rowB g b rz (fun k => (r'.2.2.1 123) (240 * n + k)) ∧ Cl3 g r' r n ca sv ob cm rz)
    (hout : ou ≠ 0 → ca = (g.2.2.2.2.2 15) (ou - 1) ∧ ((g.2.2.2.2.2 14) (ou - 1) = (g.2.2.2.2.2 15) (ou - 1) → (r.2.2.1 118) (ou - 1) = 0) ∧ ((g.2.2.2.2.2 14) (ou - 1) ≠ (g.2.2.2.2.2 15) (ou - 1) → (g.2.2.2.2.2 34) (ou - 1) = 0 ∧ ((r.2.2.1 125) (ou - 1) = 1 ∨ (r.2.2.1 123) (240 * (ou - 1) + 2) ≠ (r.2.2.1 93) ((g.2.2.2.2.2 15) (ou - 1)))) ∧ (∀ i, i < n → (g.2.2.2.2.2 18) i ≠ ou) ∧ ob ≠ 0 ∧ (g.2.2.2.2.2 17) (ou - 1) ≠ 0 ∧ (r.2.2.1 84) (8 * (g.2.2.2.2.2 13) (ob - 1) + cm) = (r.2.2.1 84) (8 * (g.2.2.2.2.2 13) ((g.2.2.2.2.2 17) (ou - 1) - 1) + (g.2.2.2.2.2 16) (ou - 1)))
    (c1 : cCal n ((g.1 4) ca) ((g.1 4) sv) (if ob = 0 then 0 else (g.1 5) (ob - 1)) cm (if ou = 0 then 0 else (g.1 6) (ou - 1)) ((r.1 75)) 0 0 0 (if (r'.2.2.1 130) n = 0 then 0 else (r'.2.2.1 129) n) b 0 0 0 0 0 (h.2.2 a)) : World K tb (clG g n a b ca sv ob cm ou rz) r' (tI x 24 2 (nI (n + 1))) (hset h (x.2 6) n (.ref a)) := by
  rw [cl_eq hcx]
  obtain ⟨hF, hG, hRq, hNL⟩ := h1
  obtain ⟨z1, z2, z3, z4, z5, z6, z7, z8, z9, z10, z11, z12, z13, ⟨z14, z15, z16, z17⟩, z18⟩ := h2
  unfold Cl3 at hrem
  generalize (r'.1 57) = v1 at *
  generalize (r'.1 81) = v2 at *
  generalize (r'.1 82) = v3 at *
  generalize (r'.1 84) = v4 at *
  generalize (r'.1 87) = v5 at *
  generalize (r'.2.2.1 114) = f1 at *
  generalize (r'.2.2.1 115) = f2 at *
  generalize (r'.2.2.1 116) = f3 at *
  generalize (r'.2.2.1 117) = f4 at *
  generalize (r'.2.2.1 118) = f5 at *
  generalize (r'.2.2.1 119) = f6 at *
  generalize (r'.2.2.1 120) = f7 at *
  generalize (r'.2.2.1 121) = f8 at *
  generalize (r'.2.2.1 122) = f9 at *
  generalize (r'.2.2.1 123) = f10 at *
  generalize (r'.2.2.1 124) = f11 at *
  generalize (r'.2.2.1 125) = f12 at *
  generalize (r'.2.2.1 126) = f13 at *
  generalize (r'.2.2.1 129) = f14 at *
  generalize (r'.2.2.1 130) = f15 at *
  generalize (r'.2.2.1 131) = f16 at *
  generalize (r'.2.2.1 143) = f17 at *
  generalize (r'.2.2.1 144) = f18 at *
  generalize (r'.2.2.1 134) = f19 at *
  generalize (r'.2.2.1 135) = f20 at *
  generalize (r'.2.2.1 136) = f21 at *
  generalize (r'.2.2.1 137) = f22 at *
  generalize (r'.2.2.1 88) = f23 at *
  generalize (r'.2.2.1 89) = f24 at *
  generalize (r'.2.2.2 87) = NN at *
  obtain ⟨hS, hI, hms⟩ := hw
  obtain ⟨hCnt, hTxt, hBk, hDs, hOb, hNo, hVa, hFa, hCa, hWy⟩ := hI
  obtain ⟨m1, m2, m3, m4, m5⟩ := hms
  have hS' := hS
  obtain ⟨hs0, pf, hC, bk, vr, kp, ft, flx, fw, fx⟩ := hS
  have hic : (g.2.2.2.2.2 23) n = 0 ∧ (g.2.2.2.2.2 23) (60 + n) = 0 := by
    have y0 := (hWy.2 n hn60 0 (by omega)).1 (by omega)
    have y1 := (hWy.2 n hn60 1 (by omega)).1 (by omega)
    simp only [Nat.mul_zero, Nat.zero_add, Nat.mul_one] at y0 y1
    exact ⟨y0.1, y1.1⟩
  have hasz : (r.2.2.1 128) n = 0 := ((hWy.2 n hn60 0 (by omega)).1 (by omega)).2.2
  have hlt : ∀ c, c < (g.1 0 5) → c ≠ n := fun c hc => by omega
  refine ⟨sim_link (a := a) (g' := clG g n a b ca sv ob cm ou rz) hS' (fun p => p = a) (q := 6) (by decide) (by decide) he hn hcap rfl (fun k hk => upN_n _ _ hk) rfl (fun p p1 p2 => ?_) (fun p => rfl) (fun p hp => ?_) (fun p hp => clG_ro hp) (fun p hp => ?_) (fun p c' hp => ?_) (fun p hp hr => ?_) (fun p c' hp hq4 p1 p2 hc' => ?_) (fun p hp => ?_) bk ⟨fun k hk => ?_, fun j hj i hi => ?_, fun c hc hv => ?_⟩ (fun c hc => ?_) ft fw fx, ⟨?_, hTxt, hBk, hDs, hOb, hNo, ⟨fun k hk => ?_, fun j hj i hi => ?_, fun c hc hv => ?_⟩, hFa, fun c hc => ?_, ⟨hWy.1, fun c hc w hw => ?_⟩⟩, fun i hi => ?_, ⟨m2.1, fun c hc => ?_⟩, fun c hc hl => ?_, fun c hc hz => ?_, fun c hc => ?_⟩
  · show upN (upN g.1 0 _) 6 _ p = _
    rw [upN_n _ _ p2, upN_n _ _ (by omega)]
  · subst hp
    exact ⟨hro, ha, ha2⟩
  · subst hp
    rw [clG_r0]
    exact (by decide : 4 < 14)
  · rcases hp with hp | hp | hp | hp | hp | ⟨k, hk, hl⟩ | hp
    · have hr : Ref0 g x.2 p c' := Or.inl hp
      exact Or.inl ⟨pf.1 p c' hr, ref_c0 hr⟩
    · have hr : Ref0 g x.2 p c' := Or.inr (Or.inl hp)
      exact Or.inl ⟨pf.1 p c' hr, ref_c0 hr⟩
    · have hr : Ref0 g x.2 p c' := Or.inr (Or.inr (Or.inl hp))
      exact Or.inl ⟨pf.1 p c' hr, ref_c0 hr⟩
    · have hr : Ref0 g x.2 p c' := Or.inr (Or.inr (Or.inr (Or.inl hp)))
      exact Or.inl ⟨pf.1 p c' hr, ref_c0 hr⟩
    · have hr : Ref0 g x.2 p c' := Or.inr (Or.inr (Or.inr (Or.inr (Or.inl hp))))
      exact Or.inl ⟨pf.1 p c' hr, ref_c0 hr⟩
    · have hk' : k < n + 1 := hk
      by_cases e : k = n
      · subst e
        rw [clG_caln, clG_rqn, clG_shn, clG_vln, clG_trn] at hl
        rcases hl with ⟨rfl, rfl⟩ | ⟨y1, rfl, rfl⟩ | ⟨y1, -⟩ | ⟨y1, -⟩ | ⟨y1, -⟩
        · exact Or.inr ⟨rfl, clG_r0⟩
        · have hne : ca ≠ sv := fun z => y1 (hloc z).1
          exact Or.inl ⟨(hrem hne).1, fun z => Nat.noConfusion z⟩
        · exact absurd rfl y1
        · exact absurd rfl y1
        · exact absurd rfl y1
      · rw [clG_cal e, clG_rq e, clG_sh e, clG_vl e, clG_tr e] at hl
        have hr : Ref0 g x.2 p c' := Or.inr (Or.inr (Or.inr (Or.inr (Or.inr (Or.inl ⟨k, by omega, hl⟩)))))
        exact Or.inl ⟨pf.1 _ _ hr, ref_c0 hr⟩
    · have hr : Ref0 g x.2 p c' := Or.inr (Or.inr (Or.inr (Or.inr (Or.inr (Or.inr hp)))))
      exact Or.inl ⟨pf.1 p c' hr, ref_c0 hr⟩
  · by_cases hnb : p = a
    · subst hnb
      rw [clG_r0]
      exact Or.inr (Or.inr (Or.inr (Or.inr (Or.inr (Or.inl ⟨n, (Nat.lt_succ_self n : n < n + 1), Or.inl ⟨clG_caln.symm, rfl⟩⟩)))))
    · rw [clG_ro hnb] at hp ⊢
      rcases hr with hr | hr
      · exact absurd hr hnb
      · rcases hr with hr | hr | hr | hr | hr | ⟨k, hk, hl⟩ | hr
        · exact Or.inl hr
        · exact Or.inr (Or.inl hr)
        · exact Or.inr (Or.inr (Or.inl hr))
        · exact Or.inr (Or.inr (Or.inr (Or.inl hr)))
        · exact Or.inr (Or.inr (Or.inr (Or.inr (Or.inl hr))))
        · refine Or.inr (Or.inr (Or.inr (Or.inr (Or.inr (Or.inl ⟨k, (by show k < n + 1; omega), ?_⟩)))))
          rw [clG_cal (hlt k hk), clG_rq (hlt k hk), clG_sh (hlt k hk), clG_vl (hlt k hk), clG_tr (hlt k hk)]
          exact hl
        · exact Or.inr (Or.inr (Or.inr (Or.inr (Or.inr (Or.inr hr)))))
  · have hlt2 := fun z => ref_lt (pf.2.2 p z)
    have e := clG_ro (g := g) (n := n) (b := b) (ca := ca) (sv := sv) (ob := ob) (cm := cm) (ou := ou) (rz := rz) hp
    unfold Cell at hc' ⊢
    rw [e]
    obtain ⟨c1, c2, c3, c4, c5, c6, c7, c8, c9, c10, c11, c12, c13, c14, c15, c16, c17, c18⟩ := hc'
    have hjn : ∀ z1 : 15 ≤ (g.2.2.2.1 p).1, (g.2.2.2.1 p).1 ≤ 17 → (g.2.2.2.1 p).2 ≠ n ∧ (g.2.2.2.1 p).2 ≠ 60 + n := fun z1 z2 => by
      obtain ⟨l1, l2⟩ := (hlt2 (by omega)).2.2.2.2.2 z1 z2
      exact ⟨fun q => l2 (by rw [q]; exact hic.1), fun q => l2 (by rw [q]; exact hic.2)⟩
    refine ⟨c1, c2, c3, fun z => absurd z hq4, c5, c6, c7, c8, c9, c10, c11, c12, c13, fun z => ?_, fun z => ?_, fun z => ?_, fun z => ?_, c18⟩
    · have ho := (hlt2 (by omega)).2.2.1 z
      have hne := hlt _ ho
      obtain ⟨y1, y2, y3, y4, y5, y6, y7, y8, y9, y10, y11, y12, y13, y14, y15⟩ := hF _ hne
      have c := c14 z
      obtain ⟨-, -, -, -, -, -, -, -, -, -, u11, -⟩ := hCa _ ho
      rw [clG_ca hne, clG_sv hne, clG_ob hne, clG_cm hne, clG_ou hne, clG_rq hne, clG_sh hne, clG_vl hne, clG_tr hne]
      show cCal (g.2.2.2.1 p).2 ((g.1 4) ((g.2.2.2.2.2 14) (g.2.2.2.1 p).2)) ((g.1 4) ((g.2.2.2.2.2 15) (g.2.2.2.1 p).2)) (if (g.2.2.2.2.2 17) (g.2.2.2.1 p).2 = 0 then 0 else (g.1 5) ((g.2.2.2.2.2 17) (g.2.2.2.1 p).2 - 1)) ((g.2.2.2.2.2 16) (g.2.2.2.1 p).2) (if (g.2.2.2.2.2 18) (g.2.2.2.1 p).2 = 0 then 0 else (clG g n a b ca sv ob cm ou rz).1 6 ((g.2.2.2.2.2 18) (g.2.2.2.1 p).2 - 1)) (f9 (g.2.2.2.1 p).2) (f5 (g.2.2.2.1 p).2) (f8 (g.2.2.2.1 p).2) (f12 (g.2.2.2.1 p).2) (if f15 (g.2.2.2.1 p).2 = 0 then 0 else f14 (g.2.2.2.1 p).2) ((g.2.2.2.2.2 19) (g.2.2.2.1 p).2) ((g.2.2.2.2.2 20) (g.2.2.2.1 p).2) ((g.2.2.2.2.2 21) (g.2.2.2.1 p).2) ((g.2.2.2.2.2 22) (g.2.2.2.1 p).2) ((g.2.2.2.2.2 23) (g.2.2.2.1 p).2) ((g.2.2.2.2.2 23) (60 + (g.2.2.2.1 p).2)) _
      rw [y5, y8, y9, y11, y13, y14, clG_cal (j := (g.2.2.2.2.2 18) (g.2.2.2.1 p).2 - 1) (by omega)]
      exact c
    · obtain ⟨l1, l2⟩ := hjn (by omega) (by omega)
      rw [clG_gof l1 l2, clG_gbt l1 l2]
      exact c15 z
    · obtain ⟨l1, l2⟩ := hjn (by omega) (by omega)
      rw [clG_gbt l1 l2]
      exact c16 z
    · obtain ⟨l1, l2⟩ := hjn (by omega) (by omega)
      rw [clG_gbt l1 l2]
      exact c17 z
  · subst hp
    refine cell_14 (by rw [clG_r0]) ?_
    rw [clG_r0]
    show cCal n ((g.1 4) ((clG g n p b ca sv ob cm ou rz).2.2.2.2.2 14 n)) ((g.1 4) ((clG g n p b ca sv ob cm ou rz).2.2.2.2.2 15 n)) (if (clG g n p b ca sv ob cm ou rz).2.2.2.2.2 17 n = 0 then 0 else (g.1 5) ((clG g n p b ca sv ob cm ou rz).2.2.2.2.2 17 n - 1)) ((clG g n p b ca sv ob cm ou rz).2.2.2.2.2 16 n) (if (clG g n p b ca sv ob cm ou rz).2.2.2.2.2 18 n = 0 then 0 else (clG g n p b ca sv ob cm ou rz).1 6 ((clG g n p b ca sv ob cm ou rz).2.2.2.2.2 18 n - 1)) (f9 n) (f5 n) (f8 n) (f12 n) (if f15 n = 0 then 0 else f14 n) ((clG g n p b ca sv ob cm ou rz).2.2.2.2.2 19 n) ((clG g n p b ca sv ob cm ou rz).2.2.2.2.2 20 n) ((clG g n p b ca sv ob cm ou rz).2.2.2.2.2 21 n) ((clG g n p b ca sv ob cm ou rz).2.2.2.2.2 22 n) ((g.2.2.2.2.2 23) n) ((g.2.2.2.2.2 23) (60 + n)) _
    rw [clG_can, clG_svn, clG_obn, clG_cmn, clG_oun, clG_rqn, clG_shn, clG_vln, clG_trn, hic.1, hic.2, z6, z9, z10, z11]
    by_cases h0 : ou = 0
    · rw [if_pos h0] at c1 ⊢
      exact c1
    · rw [if_neg h0] at c1 ⊢
      rw [clG_cal (by omega)]
      exact c1
  · have hk3 : k < 3 := by have := hCnt.2.2.1.2; have hk' : k < (g.1 0 0) := hk; omega
    obtain ⟨u1, u2, u3⟩ := hNL k (by omega)
    exact VR_c (g := g) u1 u2 u3 rfl rfl (vr.1 k hk)
  · have hn6 := hCnt.2.2.2.1.2
    have hj' : j < (g.1 0 1) := hj
    have h6 : (g.2.2.2.2.2 8) ((g.2.2.2.2.2 11) j) ≤ 6 := (hBk.2.2.2.1 _ (hNo j hj).2).2.1
    have hi' : i < (g.2.2.2.2.2 8) ((g.2.2.2.2.2 11) j) := hi
    obtain ⟨u1, u2, u3⟩ := hNL (3 + (6 * j + i)) (by omega)
    exact VR_c (g := g) u1 u2 u3 rfl rfl (vr.2.1 j hj i hi)
  · have hc' : c < n + 1 := hc
    by_cases e : c = n
    · subst e
      exact absurd clG_vln hv
    · rw [clG_vl e] at hv
      obtain ⟨u1, u2, u3⟩ := hNL (543 + c) (by omega)
      rw [clG_vl e, clG_ob e, clG_cm e]
      exact VR_c (g := g) u1 u2 u3 rfl rfl (vr.2.2 c (by omega) hv)
  · have hc' : c < n + 1 := hc
    by_cases e : c = n
    · subst e
      rw [clG_rqn, clG_can, clG_svn, clG_rzn, clG_shn, clG_vln, clG_trn]
      refine ⟨⟨fun z => ?_, fun z => (hloc z).1⟩, fun z => ?_, ⟨fun _ => z12, fun _ => rfl⟩, fun z => absurd rfl z, ⟨fun _ => ?_, fun _ => rfl⟩, ⟨fun _ => ?_, fun _ => rfl⟩, fun z => absurd rfl z⟩
      · by_cases q : ca = sv
        · exact q
        · have := (hrem q).1.1
          omega
      · have hne : ca ≠ sv := fun q => z (hloc q).1
        exact (hrem hne).2.2.1
      · show f5 c ≠ 1
        rw [z6]; decide
      · show f5 c ≠ 2
        rw [z6]; decide
    · obtain ⟨k1, k2, k3, k4, k5, k6, k7⟩ := kp c (by omega)
      obtain ⟨y1, y2, y3, y4, y5, y6, y7, y8, y9, y10, y11, y12, y13, y14, y15⟩ := hF c e
      rw [clG_rq e, clG_ca e, clG_sv e, clG_rz e, clG_sh e, clG_vl e, clG_tr e, clG_az e, clG_tm e]
      show _ ∧ (_ → rowB _ _ _ (fun k => f10 (240 * c + k))) ∧ (_ ↔ f13 c = 0) ∧ _ ∧ (_ ↔ f5 c ≠ 1) ∧ (_ ↔ f5 c ≠ 2) ∧ _
      rw [y5, y12]
      refine ⟨k1, fun z => ?_, k3, k4, k5, k6, k7⟩
      obtain ⟨w1, w2⟩ := k2 z
      have hrz : (g.2.2.2.2.2 33) c ≤ 240 := by
        obtain ⟨-, -, -, -, -, -, -, -, -, -, -, -, -, -, -, -, -, u18, -⟩ := hCa c (by omega)
        exact u18
      refine ⟨w1, fun k hk => ?_⟩
      show isB (f10 (240 * c + k)) ∧ _ = sb (f10 (240 * c + k))
      rw [hRq (240 * c + k) (by omega)]
      exact w2 k hk
  · obtain ⟨n1, n2, n3, n4, n5, n6, n7, n8, n9⟩ := hCnt
    exact ⟨n1, n2, n3, n4, n5, n6, n7, ⟨z1, (by omega : n + 1 ≤ 60)⟩, n9⟩
  · have hk3 : k < 3 := by have := hCnt.2.2.1.2; have hk' : k < (g.1 0 0) := hk; omega
    show _ ∧ VV _ _ _ _ (NN k) _
    rw [(hNL k (by omega)).1]
    exact hVa.1 k hk
  · have hn6 := hCnt.2.2.2.1.2
    have hj' : j < (g.1 0 1) := hj
    have h6 : (g.2.2.2.2.2 8) ((g.2.2.2.2.2 11) j) ≤ 6 := (hBk.2.2.2.1 _ (hNo j hj).2).2.1
    have hi' : i < (g.2.2.2.2.2 8) ((g.2.2.2.2.2 11) j) := hi
    show VV _ _ _ _ (NN (3 + (6 * j + i))) _
    rw [(hNL _ (by omega)).1]
    exact hVa.2.1 j hj i hi
  · have hc' : c < n + 1 := hc
    by_cases e : c = n
    · subst e
      exact absurd clG_vln hv
    · rw [clG_vl e] at hv
      rw [clG_ob e, clG_cm e]
      show VV _ _ _ _ (NN (543 + c)) _
      rw [(hNL _ (by omega)).1]
      exact hVa.2.2 c (by omega) hv
  · have hc' : c < n + 1 := hc
    by_cases e : c = n
    · subst e
      rw [clG_can, clG_svn, clG_obn, clG_cmn, clG_oun, clG_rzn, clG_azn, clG_tmn]
      refine ⟨z2, hca, z5, hsv, z3, hob.1, z4, hob.2.1, hob.2.2, z7, hou, ⟨0, by omega, z6⟩, Or.inl z11, Or.inl z12, ?_, ?_, z18, ?_, hasz, by omega, z13, by omega, ?_, ?_⟩
      · rcases hmv with q | q
        · exact Or.inl q
        · exact Or.inr q.1
      · show isBl (f7 c)
        rw [z8]
        split
        · exact Or.inl rfl
        · exact Or.inr rfl
      · by_cases q : ca = sv
        · rw [(hloc q).2]; omega
        · exact (hrem q).2.1
      · intro q
        rcases hmv with q' | ⟨-, q2, q3⟩
        · have q2 : f15 c = 1 := q
          rw [q'] at q2
          exact absurd q2 (by decide)
        · exact ⟨q2, q3⟩
      · intro q
        obtain ⟨-, -, -, -, o5, o6, o7⟩ := hout q
        rw [clG_ob (by omega), clG_cm (by omega)]
        exact ⟨o5, o6, o7⟩
    · obtain ⟨y1, y2, y3, y4, y5, y6, y7, y8, y9, y10, y11, y12, y13, y14, y15⟩ := hF c e
      have hu := hCa c (by omega)
      have hou' : (g.2.2.2.2.2 18) c ≤ c := hu.2.2.2.2.2.2.2.2.2.2.1
      rw [clG_ca e, clG_sv e, clG_ob e, clG_cm e, clG_ou e, clG_rz e, clG_az e, clG_tm e]
      show f1 c = _ ∧ _ ∧ f4 c = _ ∧ _ ∧ f2 c = _ ∧ _ ∧ f3 c = _ ∧ _ ∧ _ ∧ f6 c = _ ∧ _ ∧ (∃ k, _ ∧ f5 c = nI k) ∧ isBl (f12 c) ∧ isBl (f13 c) ∧ isBl (f15 c) ∧ isBl (f7 c) ∧ f11 c = _ ∧ _ ∧ _ ∧ _ ∧ f16 c = _ ∧ _ ∧ (f15 c = 1 → _ ∧ ∃ k, _ ∧ _ ∧ f14 c = nI k) ∧ ((g.2.2.2.2.2 18) c ≠ 0 → (g.2.2.2.2.2 17) c ≠ 0 ∧ (clG g n a b ca sv ob cm ou rz).2.2.2.2.2 17 ((g.2.2.2.2.2 18) c - 1) ≠ 0 ∧ _ = (r.2.2.1 84) (8 * (g.2.2.2.2.2 13) ((clG g n a b ca sv ob cm ou rz).2.2.2.2.2 17 ((g.2.2.2.2.2 18) c - 1) - 1) + (clG g n a b ca sv ob cm ou rz).2.2.2.2.2 16 ((g.2.2.2.2.2 18) c - 1)))
      rw [clG_ob (j := (g.2.2.2.2.2 18) c - 1) (by omega), clG_cm (j := (g.2.2.2.2.2 18) c - 1) (by omega)]
      rw [y1, y2, y3, y4, y5, y6, y7, y10, y11, y12, y13, y14, y15]
      exact hu
  · obtain ⟨y1, y2, y3⟩ := hWy.2 c hc w hw
    by_cases e : c = n
    · subst e
      have hz : (clG g c a b ca sv ob cm ou rz).2.2.2.2.2 31 (60 * w + c) = 0 ∧ (clG g c a b ca sv ob cm ou rz).2.2.2.2.2 30 (60 * w + c) = 0 ∧ f18 (60 * w + c) = 0 ∧ f17 (60 * w + c) = 0 := by
        obtain rfl | rfl : w = 0 ∨ w = 1 := by omega
        · rw [Nat.mul_zero, Nat.zero_add]
          exact ⟨clG_gbt0 hn60, clG_gof0 hn60, z16, z14⟩
        · rw [Nat.mul_one]
          exact ⟨clG_gbt1, clG_gof1, z17, z15⟩
      refine ⟨fun z => absurd z (by show ¬ c + 1 ≤ c; omega), fun _ _ => hz.1, fun _ => ?_⟩
      rw [hz.1, hz.2.1]
      exact ⟨hz.2.2.1, by omega, hz.2.2.2, by omega⟩
    · have e1 : 60 * w + c ≠ n := by omega
      have e2 : 60 * w + c ≠ 60 + n := by omega
      obtain ⟨q1, q2⟩ := hG _ e1 e2
      rw [clG_gbt e1 e2, clG_gof e1 e2]
      show (n + 1 ≤ c → (g.2.2.2.2.2 23) (60 * w + c) = 0 ∧ f11 c = 0 ∧ (r.2.2.1 128) c = 0) ∧ ((g.2.2.2.2.2 23) (60 * w + c) = 0 → c < n + 1 → (g.2.2.2.2.2 31) (60 * w + c) = 0) ∧ (c < n + 1 → f18 (60 * w + c) = _ ∧ _ ∧ f17 (60 * w + c) = _ ∧ _)
      rw [q1, q2, (hF c e).2.2.2.2.2.2.2.2.2.1]
      exact ⟨fun z => y1 (by omega), fun z z' => y2 z (by omega), fun z => y3 (by omega)⟩
  · have hm := m1 i hi
    have hsz := (hWy.1 i hi).2.2.1
    obtain ⟨w, c, p, m, w3, c3, cs, pm, m10, e1, e2, e3, e4, e5, e6, e7⟩ := hm
    have hne := hlt c c3
    have hrz : (g.2.2.2.2.2 33) c ≤ 240 := by
      obtain ⟨-, -, -, -, -, -, -, -, -, -, -, -, -, -, -, -, -, u18, -⟩ := hCa c (by omega)
      exact u18
    refine ⟨w, c, p, m, w3, (by show c < n + 1; omega), (by rw [clG_ca hne, clG_sv hne]; exact cs), pm, m10, e1, e2, e3, e4, fun z => ?_, fun z => ?_, e7⟩
    · rw [clG_rz hne]
      obtain ⟨q1, q2, q3⟩ := e5 z
      refine ⟨q1, q2, fun k hk => ?_⟩
      have hk2 : k < cS ((g.2.2.2.2.2 33) c) p := hk
      have hcs : cS ((g.2.2.2.2.2 33) c) p ≤ (g.2.2.2.2.2 33) c - 24 * p := Nat.min_le_right _ _
      show _ = f10 _
      rw [hRq _ (by omega)]
      exact q3 k hk
    · rw [clG_az hne]
      exact e6 z
  · have hc' : c < n + 1 := hc
    by_cases e : c = n
    · subst e
      rw [clG_gbt0 hn60, clG_gbt1]
      exact ⟨fun _ => ⟨rfl, rfl⟩, fun z => absurd rfl z, fun z => absurd rfl z, fun z => absurd rfl z⟩
    · obtain ⟨y1, y2, y3, y4⟩ := m2.2 c (by omega)
      have hrz : (g.2.2.2.2.2 33) c ≤ 240 := by
        obtain ⟨-, -, -, -, -, -, -, -, -, -, -, -, -, -, -, -, -, u18, -⟩ := hCa c (by omega)
        exact u18
      rw [clG_ca e, clG_sv e, clG_gbt (j := c) (by omega) (by omega), clG_gbt (j := 60 + c) (by omega) (by omega), clG_gof (j := c) (by omega) (by omega), clG_gof (j := 60 + c) (by omega) (by omega), clG_rz e, clG_az e]
      refine ⟨y1, fun z => ?_, y3, y4⟩
      obtain ⟨u1, u2, u3, u4⟩ := y2 z
      refine ⟨u1, u2, u3, fun p hp hb => ⟨(u4 p hp hb).1, fun k hk => ?_⟩⟩
      have hcs : cS ((g.2.2.2.2.2 33) c) p ≤ (g.2.2.2.2.2 33) c - 24 * p := Nat.min_le_right _ _
      show _ = f10 _
      rw [hRq _ (by omega)]
      exact (u4 p hp hb).2 k hk
  · have hc' : c < n + 1 := hc
    by_cases e : c = n
    · subst e
      rw [clG_can, clG_svn] at hl
      obtain ⟨q1, q2, q3, q4, q5, q6, q7, q8, q9⟩ := hrem hl
      rw [clG_rzn, clG_cmn, clG_svn, clG_obn]
      exact ⟨q4, q5, q6, q7, q8, q9⟩
    · rw [clG_ca e, clG_sv e] at hl
      have hrw : ∀ k, k < 240 → f10 (240 * c + k) = (r.2.2.1 123) (240 * c + k) := fun k hk => hRq (240 * c + k) (by omega)
      have hrz : (g.2.2.2.2.2 33) c ≤ 240 := by
        obtain ⟨-, -, -, -, -, -, -, -, -, -, -, -, -, -, -, -, -, u18, -⟩ := hCa c (by omega)
        exact u18
      obtain ⟨y1, y2, y3, y4, y5, y6⟩ := m3 c (by omega) hl
      rw [clG_rz e, clG_cm e, clG_sv e, clG_ob e]
      refine ⟨y1, fun k hk => ?_, ?_, ?_, fun z => ?_, fun z => ?_⟩
      · show isB (f10 _)
        rw [hrw k (by omega)]
        exact y2 k hk
      · show f10 _ = _
        rw [hrw 1 (by omega)]
        exact y3
      · show ∃ a b, _ ∧ _ ∧ f10 (240 * c + 2) = _ ∧ _
        rw [hrw 2 (by omega)]
        exact y4
      · show _ ∧ f10 (240 * c + 0) = 250 ∧ ∃ n, _ ∧ _ ∧ f10 (240 * c + 3) = _ ∧ f10 (240 * c + 4) = _ ∧ f14 c = _
        rw [hrw 0 (by omega), hrw 3 (by omega), hrw 4 (by omega), (hF c e).2.2.2.2.2.2.2.2.2.2.2.2.1]
        exact y5 z
      · obtain ⟨u1, m, l, u2⟩ := y6 z
        refine ⟨?_, m, l, ?_⟩
        · show f10 (240 * c + 0) = _
          rw [hrw 0 (by omega)]
          exact u1
        · exact prs_f (fun k hk => hrw k (by omega)) m _ _ _ _ u2
  · have hc' : c < n + 1 := hc
    by_cases e : c = n
    · subst e
      exact absurd clG_azn hz
    · rw [clG_az e] at hz
      rw [clG_ca e, clG_sv e, clG_az e, clG_ob e, clG_cm e]
      exact m4 c (by omega) hz
  · have hc' : c < n + 1 := hc
    by_cases e : c = n
    · subst e
      rw [clG_can, clG_svn, clG_azn]
      refine ⟨fun _ z => absurd z (by show f12 c ≠ 1; rw [z11]; decide), fun _ z => ?_, fun z => absurd z (by show f13 c ≠ 1; rw [z12]; decide), fun i hi ho => ?_, fun _ => ?_, fun _ _ => ⟨0, by omega, ?_⟩⟩
      · rcases z with z | ⟨i, hi, ho⟩
        · exact absurd rfl z
        · have hi' : i < c + 1 := hi
          by_cases e2 : i = c
          · subst e2
            rw [clG_oun] at ho
            omega
          · rw [clG_ou e2] at ho
            obtain ⟨-, -, -, -, -, -, -, -, -, -, u11, -⟩ := hCa i (by omega)
            omega
      · have hi' : i < c + 1 := hi
        by_cases e2 : i = c
        · subst e2
          rw [clG_oun] at ho
          omega
        · rw [clG_ou e2] at ho
          obtain ⟨-, -, -, -, -, -, -, -, -, -, u11, -⟩ := hCa i (by omega)
          omega
      · rw [clG_oun]
        show f7 c = 0 ↔ ou = 0
        rw [z8]
        by_cases q : ou = 0
        · rw [if_pos q]; exact ⟨fun _ => q, fun _ => rfl⟩
        · rw [if_neg q]; exact ⟨fun z => absurd z (by decide), fun z => absurd z q⟩
      · show (r.1 75) - f9 c = nI 0
        rw [z10, Int32.sub_self]
        rfl
    · obtain ⟨y1, y2, y3, y4, y5, y6⟩ := m5 c (by omega)
      obtain ⟨q1, q2, q3, q4, q5, q6, q7, q8, q9, q10, q11, q12, q13, q14, q15⟩ := hF c e
      have hr2 : f10 (240 * c + 2) = (r.2.2.1 123) (240 * c + 2) := hRq _ (by omega)
      rw [clG_ca e, clG_sv e, clG_az e, clG_ou e]
      refine ⟨fun hl hb => ?_, fun hl hz => ?_, fun hb => ?_, fun i hi ho => ?_, fun hz => ?_, fun hl hz => ?_⟩
      · show f10 _ = _
        rw [hr2]
        exact y1 hl (by rw [← q11]; exact hb)
      · show f12 c = 1 ∨ f10 (240 * c + 2) ≠ _
        rw [q11, hr2]
        rcases hz with hz | ⟨i, hi, ho⟩
        · exact y2 hl (Or.inl hz)
        · have hi' : i < n + 1 := hi
          by_cases e2 : i = n
          · subst e2
            rw [clG_oun] at ho
            have hoz : ou ≠ 0 := by omega
            have hc0 : ou - 1 = c := by omega
            obtain ⟨-, -, o3, -⟩ := hout hoz
            rw [hc0] at o3
            exact (o3 hl).2
          · rw [clG_ou e2] at ho
            exact y2 hl (Or.inr ⟨i, by omega, ho⟩)
      · exact y3 (by rw [← q12]; exact hb)
      · have hi' : i < n + 1 := hi
        by_cases e2 : i = n
        · subst e2
          rw [clG_oun] at ho
          have hoz : ou ≠ 0 := by omega
          have hc0 : ou - 1 = c := by omega
          obtain ⟨o1, o2, o3, o4, -⟩ := hout hoz
          rw [hc0] at o1 o2 o3
          refine ⟨by omega, by rw [clG_can]; exact o1, fun _ => ⟨fun hl => ?_, fun hl => (o3 hl).1⟩, fun j hj hoj => ?_⟩
          · show f5 c = 0
            rw [q5]
            exact o2 hl
          · have hj' : j < i + 1 := hj
            by_cases e3 : j = i
            · exact e3.symm
            · rw [clG_ou e3] at hoj
              exact absurd (hoj.trans ho.symm) (o4 j (by omega))
        · rw [clG_ou e2] at ho
          obtain ⟨v1, v2, v3, v4⟩ := y4 i (by omega) ho
          refine ⟨v1, by rw [clG_ca e2]; exact v2, fun z => ?_, fun j hj hoj => ?_⟩
          · have z' : (r.2.2.1 118) i = 0 := by rw [← (hF i e2).2.2.2.2.1]; exact z
            obtain ⟨w1, w2⟩ := v3 z'
            exact ⟨fun hl => by show f5 c = 0; rw [q5]; exact w1 hl, w2⟩
          · have hj' : j < n + 1 := hj
            by_cases e3 : j = n
            · subst e3
              rw [clG_oun] at hoj
              have hoz : ou ≠ 0 := by omega
              exact absurd (ho.trans hoj.symm) ((hout hoz).2.2.2.1 i (by omega))
            · rw [clG_ou e3] at hoj
              exact v4 j (by omega) hoj
      · show f7 c = 0 ↔ _
        rw [q7]
        exact y5 (by rw [← q5]; exact hz)
      · show ∃ s, _ ∧ (r.1 75) - f9 c = _
        rw [q9]
        exact y6 hl (by rw [← q5]; exact hz)
end
