section
variable {K : Nat → pcell} {tb : Nat} {g g' g0 g1 : gS} {r r' r0 : rS} {x x' x1 : xS} {h h' h1 : pheap} {d : Nat} {Q : Option Value → pheap → Prop} {a n k m i j f e : Nat} {T : Nat → Nat}
theorem op_fbs (hs : Sim K g r x h) (hF : Fst g) (hf : f < (g.1 0 2)) (hk : (g.2.2.2.2.2 26) f ≤ k) (hk2 : k < 2) : Sim K (gN g 25 (2 * f + k) e) r x (hset h ((g.1 3) f + 1) k (.ref ((g.1 3) e))) := by
  obtain ⟨a1, a2, a3, a4⟩ := sim_cell hs (ref_fbs hf)
  obtain ⟨⟨s1, s2, s3, s4⟩, pf, hC, bk, vr, kp, ft, flx, fw, fx⟩ := hs
  have hbo : ∀ i, i ≠ 2 * f + k → (gN g 25 (2 * f + k) e).2.2.2.2.2 25 i = (g.2.2.2.2.2 25) i := fun i hi => upN_n _ _ hi
  refine ⟨⟨s1, s2, lo_set s3 a1, s4⟩, pf, fun b b1 b2 => ?_, bk_set bk a1, vr, kp, ft, flx, fw, fx⟩
  have b2' : b < h.1 := b2
  by_cases hb : b = (g.1 3) f + 1
  · subst hb
    rw [hs_s]
    obtain ⟨-, -, -, -, -, -, -, c8, -⟩ := a4
    have a3' : (gN g 25 (2 * f + k) e).2.2.2.1 ((g.1 3) f + 1) = (8, f) := a3
    refine cell_8 (by rw [a3']) ?_
    have c := c8 (by rw [a3])
    rw [a3'] 
    rw [a3] at c
    obtain ⟨q1, q2, q3⟩ := c
    refine ⟨q1, q2, fun i hi => ?_⟩
    have hi' : i < (g.2.2.2.2.2 26) f := hi
    show updV _ k _ i = Value.ref ((g.1 3) ((gN g 25 (2 * f + k) e).2.2.2.2.2 25 (2 * f + i)))
    rw [uv_o _ _ (by omega), hbo _ (by omega)]
    exact q3 i hi
  · rw [hs_o _ _ hb]
    obtain ⟨c1, c2, c3, c4, c5, c6, c7, c8, c9, c10, c11, c12, c13, c14, c15, c16, c17, c18⟩ := hC b b1 b2'
    refine ⟨c1, c2, c3, c4, c5, c6, c7, fun z => ?_, c9, c10, c11, c12, c13, c14, c15, c16, c17, c18⟩
    have z' : (g.2.2.2.1 b).1 = 8 := z
    have hj : (g.2.2.2.1 b).2 ≠ f := fun q => hb (uniq pf a3 (Prod.ext z' q) (Nat.le_of_ble_eq_true rfl))
    have hlt := (ref_lt (pf.2.2 b (by omega))).2.2.2.2.1 (by omega) (by omega)
    have h2 := (hF _ hlt).2.1
    obtain ⟨q1, q2, q3⟩ := c8 z
    refine ⟨q1, q2, fun i hi => ?_⟩
    have hi' : i < (g.2.2.2.2.2 26) (g.2.2.2.1 b).2 := hi
    show _ = Value.ref ((g.1 3) ((gN g 25 (2 * f + k) e).2.2.2.2.2 25 (2 * (g.2.2.2.1 b).2 + i)))
    rw [hbo _ (by omega)]
    exact q3 i hi
theorem op_fbm (hs : Sim K g r x h) (hf : f < (g.1 0 2)) {v : Nat} (hv : ∀ k, k < v → (h.2.2 ((g.1 3) f + 1)).2.2 k = .ref ((g.1 3) ((g.2.2.2.2.2 25) (2 * f + k)))) : Sim K (gN g 26 f v) r x (hset h ((g.1 3) f) 4 (.int (nI v))) := by
  obtain ⟨a1, a2, a3, a4⟩ := sim_cell hs (ref_fai hf)
  obtain ⟨d1, d2, d3, d4⟩ := sim_cell hs (ref_fbs hf)
  obtain ⟨⟨s1, s2, s3, s4⟩, pf, hC, bk, vr, kp, ft, flx, fw, fx⟩ := hs
  have hbo : ∀ i, i ≠ f → (gN g 26 f v).2.2.2.2.2 26 i = (g.2.2.2.2.2 26) i := fun i hi => upN_n _ _ hi
  have hbs : (gN g 26 f v).2.2.2.2.2 26 f = v := upN_s _ _ _
  refine ⟨⟨s1, s2, lo_set s3 a1, s4⟩, pf, fun b b1 b2 => ?_, bk_set bk a1, vr, kp, ft, flx, fw, fx⟩
  have b2' : b < h.1 := b2
  by_cases hb : b = (g.1 3) f
  · subst hb
    rw [hs_s]
    obtain ⟨-, -, -, -, -, -, c7, -⟩ := a4
    have a3' : (gN g 26 f v).2.2.2.1 ((g.1 3) f) = (7, f) := a3
    refine cell_7 (by rw [a3']) ?_
    have c := c7 (by rw [a3])
    rw [a3'] 
    rw [a3] at c
    obtain ⟨q, q0, q1, q2, q3, q4⟩ := c
    refine ⟨q, q0, q1, q2, q3, ?_⟩
    show _ = Value.int (nI ((gN g 26 f v).2.2.2.2.2 26 f))
    rw [hbs]
    rfl
  · rw [hs_o _ _ hb]
    obtain ⟨c1, c2, c3, c4, c5, c6, c7, c8, c9, c10, c11, c12, c13, c14, c15, c16, c17, c18⟩ := hC b b1 b2'
    refine ⟨c1, c2, c3, c4, c5, c6, fun z => ?_, fun z => ?_, c9, c10, c11, c12, c13, c14, c15, c16, c17, c18⟩
    · have z' : (g.2.2.2.1 b).1 = 7 := z
      have hj : (g.2.2.2.1 b).2 ≠ f := fun q => hb (uniq pf a3 (Prod.ext z' q) (Nat.le_of_ble_eq_true rfl))
      show cFai b _ _ _ ((gN g 26 f v).2.2.2.2.2 26 (g.2.2.2.1 b).2) _
      rw [hbo _ hj]
      exact c7 z
    · have z' : (g.2.2.2.1 b).1 = 8 := z
      by_cases hj : (g.2.2.2.1 b).2 = f
      · have hbb : b = (g.1 3) f + 1 := uniq pf d3 (Prod.ext z' hj) (Nat.le_of_ble_eq_true rfl)
        obtain ⟨q1, q2, q3⟩ := c8 z
        show cFbs ((gN g 26 f v).2.2.2.2.2 26 (g.2.2.2.1 b).2) (fun k => (g.1 3) ((g.2.2.2.2.2 25) (2 * (g.2.2.2.1 b).2 + k))) _
        rw [hj, hbs]
        refine ⟨q1, q2, fun i hi => ?_⟩
        rw [hbb]
        exact hv i hi
      · show cFbs ((gN g 26 f v).2.2.2.2.2 26 (g.2.2.2.1 b).2) _ _
        rw [hbo _ hj]
        exact c8 z
theorem w_beside (hw : World K tb g r x h) (hf : f < (g.1 0 2)) (he : e < f) (hb : (g.2.2.2.2.2 26) f < 2) {v : Nat} (hv : v = (g.2.2.2.2.2 26) f ∨ v = (g.2.2.2.2.2 26) f + 1) (hT : Tsz (gN (gN g 25 (2 * f + (g.2.2.2.2.2 26) f) e) 26 f v) T) (hT2 : ∀ j, j < (g.1 0 2) → T j ≤ 12) {S B M : Nat → Int32} (hS : ∀ j, j < (g.1 0 2) → S j = nI (T j)) (hB : B (2 * f + (g.2.2.2.2.2 26) f) = nI e ∧ ∀ j, j ≠ 2 * f + (g.2.2.2.2.2 26) f → B j = (r.2.2.1 111) j) (hM : M f = nI v ∧ ∀ j, j ≠ f → M j = (r.2.2.1 112) j) (hs : Sim K (gN (gN g 25 (2 * f + (g.2.2.2.2.2 26) f) e) 26 f v) r x h') : World K tb (gF (gN (gN g 25 (2 * f + (g.2.2.2.2.2 26) f) e) 26 f v) 36 T) (sR (sR (sR r 111 B) 112 M) 113 S) x h' := by
  obtain ⟨hS0, hI, hms⟩ := hw
  obtain ⟨hCnt, hTxt, hBk, hDs, hOb, hNo, hVa, hFa, hCa, hWy⟩ := hI
  obtain ⟨s0, pf, hC, bk, vr, kp, ft, flx, fw, fx⟩ := hs
  refine ⟨⟨s0, pf, hC, bk, vr, kp, ft, flx, fw, fx⟩, ⟨hCnt, hTxt, hBk, hDs, hOb, hNo, hVa, ?_, hCa, hWy⟩, hms⟩
  intro u hu
  have hu' : u < (g.1 0 2) := hu
  obtain ⟨u1, u2, u3, u4, u5, u6, u7, u8, u9, u10⟩ := hFa u hu'
  have ht := hT u hu'
  have hsu : S u = nI (T u) := hS u hu'
  have hbo : ∀ i, i ≠ f → (gN (gN g 25 (2 * f + (g.2.2.2.2.2 26) f) e) 26 f v).2.2.2.2.2 26 i = (g.2.2.2.2.2 26) i := fun i hi => upN_n _ _ hi
  have hbs : (gN (gN g 25 (2 * f + (g.2.2.2.2.2 26) f) e) 26 f v).2.2.2.2.2 26 f = v := upN_s _ _ _
  have hso : ∀ i, i ≠ 2 * f + (g.2.2.2.2.2 26) f → (gN (gN g 25 (2 * f + (g.2.2.2.2.2 26) f) e) 26 f v).2.2.2.2.2 25 i = (g.2.2.2.2.2 25) i := fun i hi => upN_n _ _ hi
  have hss : (gN (gN g 25 (2 * f + (g.2.2.2.2.2 26) f) e) 26 f v).2.2.2.2.2 25 (2 * f + (g.2.2.2.2.2 26) f) = e := upN_s _ _ _
  have key : ∀ (b : Nat) (bsr : Nat → Nat), b ≤ 2 → sB (gN (gN g 25 (2 * f + (g.2.2.2.2.2 26) f) e) 26 f v) T u b = (if 0 < b then T ((gN (gN g 25 (2 * f + (g.2.2.2.2.2 26) f) e) 26 f v).2.2.2.2.2 25 (2 * u)) else 0) + (if 1 < b then T ((gN (gN g 25 (2 * f + (g.2.2.2.2.2 26) f) e) 26 f v).2.2.2.2.2 25 (2 * u + 1)) else 0) := fun b bsr hb2 => by
    obtain rfl | rfl | rfl : b = 0 ∨ b = 1 ∨ b = 2 := by omega
    · rfl
    · rw [if_pos (by omega), if_neg (by omega), Nat.add_zero]
      show 0 + _ = _
      rw [Nat.zero_add]
      rfl
    · rw [if_pos (by omega), if_pos (by omega)]
      show 0 + _ + _ = _
      rw [Nat.zero_add]
      rfl
  refine ⟨u1, u2, u3, u4, ?_, ?_, fun k hk => ?_, hsu, hT2 u hu', ?_⟩
  · show M u = nI ((gN (gN g 25 (2 * f + (g.2.2.2.2.2 26) f) e) 26 f v).2.2.2.2.2 26 u)
    by_cases e1 : u = f
    · subst e1
      rw [hbs]; exact hM.1
    · rw [hbo u e1, hM.2 u e1]; exact u5
  · show (gN (gN g 25 (2 * f + (g.2.2.2.2.2 26) f) e) 26 f v).2.2.2.2.2 26 u ≤ 2
    by_cases e1 : u = f
    · subst e1
      rw [hbs]; omega
    · rw [hbo u e1]; exact u6
  · have hk' : k < (gN (gN g 25 (2 * f + (g.2.2.2.2.2 26) f) e) 26 f v).2.2.2.2.2 26 u := hk
    show B (2 * u + k) = nI ((gN (gN g 25 (2 * f + (g.2.2.2.2.2 26) f) e) 26 f v).2.2.2.2.2 25 (2 * u + k)) ∧ (gN (gN g 25 (2 * f + (g.2.2.2.2.2 26) f) e) 26 f v).2.2.2.2.2 25 (2 * u + k) < u
    by_cases e1 : 2 * u + k = 2 * f + (g.2.2.2.2.2 26) f
    · rw [e1, hss]
      have : u = f := by
        by_cases e2 : u = f
        · exact e2
        · rw [hbo u e2] at hk'
          omega
      exact ⟨hB.1, by omega⟩
    · rw [hso _ e1, hB.2 _ e1]
      refine u7 k ?_
      by_cases e2 : u = f
      · subst e2
        rw [hbs] at hk'
        omega
      · rw [hbo u e2] at hk'
        exact hk'
  · have hb2 : (gN (gN g 25 (2 * f + (g.2.2.2.2.2 26) f) e) 26 f v).2.2.2.2.2 26 u ≤ 2 := by
      by_cases e1 : u = f
      · subst e1
        rw [hbs]; omega
      · rw [hbo u e1]; exact u6
    rw [key _ ((g.2.2.2.2.2 25)) hb2] at ht
    show T u = 1 + (if (g.2.2.2.2.2 24) u = 0 then 0 else T ((g.2.2.2.2.2 24) u - 1)) + (if 0 < (gN (gN g 25 (2 * f + (g.2.2.2.2.2 26) f) e) 26 f v).2.2.2.2.2 26 u then T ((gN (gN g 25 (2 * f + (g.2.2.2.2.2 26) f) e) 26 f v).2.2.2.2.2 25 (2 * u)) else 0) + (if 1 < (gN (gN g 25 (2 * f + (g.2.2.2.2.2 26) f) e) 26 f v).2.2.2.2.2 26 u then T ((gN (gN g 25 (2 * f + (g.2.2.2.2.2 26) f) e) 26 f v).2.2.2.2.2 25 (2 * u + 1)) else 0)
    rw [ht, ← Nat.add_assoc]
    rfl
theorem fst_n (hF : Fst g) (hf : f < (g.1 0 2)) (he : e < f) (hb : (g.2.2.2.2.2 26) f < 2) {v : Nat} (hv : v = (g.2.2.2.2.2 26) f ∨ v = (g.2.2.2.2.2 26) f + 1) : Fst (gN (gN g 25 (2 * f + (g.2.2.2.2.2 26) f) e) 26 f v) := fun u hu => by
  have hu' : u < (g.1 0 2) := hu
  obtain ⟨f1, f2, f3⟩ := hF u hu'
  have hbo : ∀ i, i ≠ f → (gN (gN g 25 (2 * f + (g.2.2.2.2.2 26) f) e) 26 f v).2.2.2.2.2 26 i = (g.2.2.2.2.2 26) i := fun i hi => upN_n _ _ hi
  have hbs : (gN (gN g 25 (2 * f + (g.2.2.2.2.2 26) f) e) 26 f v).2.2.2.2.2 26 f = v := upN_s _ _ _
  have hso : ∀ i, i ≠ 2 * f + (g.2.2.2.2.2 26) f → (gN (gN g 25 (2 * f + (g.2.2.2.2.2 26) f) e) 26 f v).2.2.2.2.2 25 i = (g.2.2.2.2.2 25) i := fun i hi => upN_n _ _ hi
  have hss : (gN (gN g 25 (2 * f + (g.2.2.2.2.2 26) f) e) 26 f v).2.2.2.2.2 25 (2 * f + (g.2.2.2.2.2 26) f) = e := upN_s _ _ _
  refine ⟨f1, ?_, fun k hk => ?_⟩
  · by_cases e1 : u = f
    · subst e1
      rw [hbs]; omega
    · rw [hbo u e1]; exact f2
  · by_cases e1 : 2 * u + k = 2 * f + (g.2.2.2.2.2 26) f
    · rw [e1, hss]
      have : u = f := by
        by_cases e2 : u = f
        · exact e2
        · rw [hbo u e2] at hk
          omega
      omega
    · rw [hso _ e1]
      refine f3 k ?_
      by_cases e2 : u = f
      · subst e2
        rw [hbs] at hk
        omega
      · rw [hbo u e2] at hk
        exact hk
end
