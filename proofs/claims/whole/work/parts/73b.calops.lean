/-! the cells of calls -/
section
variable {K : Nat → pcell} {tb : Nat} {g g' g0 g1 : gS} {r r' r0 : rS} {x x' x1 : xS} {h h' h1 : pheap} {d : Nat} {Q : Option Value → pheap → Prop} {a n k m i : Nat}
def calC (g : gS) (r : rS) (j : Nat) (c : pcell) : Prop := cCal j ((g.1 4) ((g.2.2.2.2.2 14) j)) ((g.1 4) ((g.2.2.2.2.2 15) j)) (if (g.2.2.2.2.2 17) j = 0 then 0 else (g.1 5) ((g.2.2.2.2.2 17) j - 1)) ((g.2.2.2.2.2 16) j) (if (g.2.2.2.2.2 18) j = 0 then 0 else (g.1 6) ((g.2.2.2.2.2 18) j - 1)) ((r.2.2.1 122) j) ((r.2.2.1 118) j) ((r.2.2.1 121) j) ((r.2.2.1 125) j) (if (r.2.2.1 130) j = 0 then 0 else (r.2.2.1 129) j) ((g.2.2.2.2.2 19) j) ((g.2.2.2.2.2 20) j) ((g.2.2.2.2.2 21) j) ((g.2.2.2.2.2 22) j) ((g.2.2.2.2.2 23) j) ((g.2.2.2.2.2 23) (60 + j)) c
theorem op_cal (hs : Sim K g r x h) (hi : i < (g.1 0 5)) {v : Value} (e4 : g'.2.2.2.1 = g.2.2.2.1) (e5 : g'.1 = g.1) (e2 : g'.2.1 = g.2.1)
    (hR1 : ∀ p c, Ref0 g' x.2 p c → okP g.2.2.2.1 h.1 p c) (hR2 : ∀ b, 4 ≤ (g.2.2.2.1 b).1 → Ref0 g x.2 b (g.2.2.2.1 b) → Ref0 g' x.2 b (g.2.2.2.1 b))
    (hC1 : ∀ b c, (g.2.2.2.1 b).1 ≠ 14 → Cell g r (x.2 0) b c → Cell g' r' (x.2 0) b c)
    (hC2 : ∀ j c, j ≠ i → j < (g.1 0 5) → calC g r j c → calC g' r' j c)
    (hC3 : ∀ c, calC g r i c → calC g' r' i (c.1, c.2.1, updV c.2.2 k v))
    (hbk : BK7 g r x h → BK7 g' r' x h) (hvr : VRs g' ((r'.2.2.2 87)) ((r'.2.2.1 88)) ((r'.2.2.1 89)) ((r'.2.2.1 91)) ((r'.2.2.1 80)) ((r'.2.2.1 84))) (hkp : Kept g' ((r'.2.2.1 118)) ((r'.2.2.1 126)) ((r'.2.2.1 123)) ((r'.2.2.1 127)) ((r'.2.2.1 132)))
    (hft : FxT g' x ((r'.2.2.1 74)) ((r'.2.2.1 90))) (hfw : FxW g' x ((r'.2.2.1 139))) (hfx : Fx x r') : Sim K g' r' x (hset h ((g.1 6) i) k v) := by
  obtain ⟨a1, a2, a3, a4⟩ := sim_cell hs (ref_cal hi)
  obtain ⟨⟨s1, s2, s3, s4⟩, pf, hC, bk, vr, kp, ft, flx, fw, fx⟩ := hs
  refine ⟨⟨s1, s2, lo_set s3 a1, fun b hb => by rw [e4]; exact s4 b hb⟩, ⟨fun p c hp => by rw [e4]; exact hR1 p c hp, fun b b1 b2 => ?_, fun b hb => ?_⟩, fun b b1 b2 => ?_, bk_set (hbk bk) a1, hvr, hkp, hft, ?_, hfw, hfx⟩
  · rw [e4] at b1
    rw [e2] at b2 ⊢
    rw [e4]
    exact pf.2.1 b b1 b2
  · rw [e4] at hb ⊢
    exact hR2 b hb (pf.2.2 b hb)
  · have b2' : b < h.1 := b2
    by_cases hb : b = (g.1 6) i
    · subst hb
      rw [hs_s]
      obtain ⟨-, -, -, -, -, -, -, -, -, -, -, -, -, c14, -⟩ := a4
      refine cell_14 (by rw [e4, a3]) ?_
      have c := c14 (by rw [a3])
      rw [a3] at c
      rw [e4, a3]
      exact hC3 _ c
    · rw [hs_o _ _ hb]
      have hc := hC b b1 b2'
      by_cases h14 : (g.2.2.2.1 b).1 = 14
      · obtain ⟨-, -, -, -, -, -, -, -, -, -, -, -, -, c14, -⟩ := hc
        have hj : (g.2.2.2.1 b).2 ≠ i := fun q => hb (uniq pf a3 (Prod.ext h14 q) (Nat.le_of_ble_eq_true rfl))
        have hlt := (ref_lt (pf.2.2 b (by omega))).2.2.1 h14
        refine cell_14 (by rw [e4]; exact h14) ?_
        rw [e4]
        exact hC2 _ _ hj hlt (c14 h14)
      · exact hC1 b _ h14 hc
  · unfold FxL
    rw [e5]
    exact flx
/-- all cells but those of calls -/
theorem cell_x14 {xb b : Nat} {c : pcell} (hb : (g.2.2.2.1 b).1 ≠ 14) (hc : Cell g r xb b c) (he : g' = g) (h2 : ∀ j, r'.2.2.1 j = r.2.2.1 j ∨ j = 118 ∨ j = 121 ∨ j = 125 ∨ j = 130 ∨ j = 126 ∨ j = 120) (h3 : r'.2.2.2 = r.2.2.2) : Cell g' r' xb b c := by
  subst he
  have q : ∀ j, j ≠ 118 → j ≠ 121 → j ≠ 125 → j ≠ 130 → j ≠ 126 → j ≠ 120 → r'.2.2.1 j = r.2.2.1 j := fun j y1 y2 y3 y4 y5 y6 => by
    rcases h2 j with e | e | e | e | e | e | e
    · exact e
    all_goals exact absurd e (by assumption)
  obtain ⟨c1, c2, c3, c4, c5, c6, c7, c8, c9, c10, c11, c12, c13, c14, c15, c16, c17, c18⟩ := hc
  refine ⟨c1, c2, c3, c4, c5, c6, ?_, c8, ?_, ?_, ?_, ?_, ?_, fun z => absurd z hb, c15, c16, ?_, ?_⟩
  · rw [q 108 (by decide) (by decide) (by decide) (by decide) (by decide) (by decide), q 109 (by decide) (by decide) (by decide) (by decide) (by decide) (by decide)]; exact c7
  · rw [q 93 (by decide) (by decide) (by decide) (by decide) (by decide) (by decide), q 97 (by decide) (by decide) (by decide) (by decide) (by decide) (by decide), q 98 (by decide) (by decide) (by decide) (by decide) (by decide) (by decide), q 99 (by decide) (by decide) (by decide) (by decide) (by decide) (by decide)]; exact c9
  · rw [q 95 (by decide) (by decide) (by decide) (by decide) (by decide) (by decide)]; exact c10
  · rw [q 94 (by decide) (by decide) (by decide) (by decide) (by decide) (by decide)]; exact c11
  · rw [q 96 (by decide) (by decide) (by decide) (by decide) (by decide) (by decide)]; exact c12
  · rw [q 102 (by decide) (by decide) (by decide) (by decide) (by decide) (by decide), q 103 (by decide) (by decide) (by decide) (by decide) (by decide) (by decide), q 104 (by decide) (by decide) (by decide) (by decide) (by decide) (by decide), q 107 (by decide) (by decide) (by decide) (by decide) (by decide) (by decide), q 105 (by decide) (by decide) (by decide) (by decide) (by decide) (by decide), h3]; exact c13
  · rw [q 141 (by decide) (by decide) (by decide) (by decide) (by decide) (by decide)]; exact c17
  · rw [q 76 (by decide) (by decide) (by decide) (by decide) (by decide) (by decide), q 80 (by decide) (by decide) (by decide) (by decide) (by decide) (by decide), q 84 (by decide) (by decide) (by decide) (by decide) (by decide) (by decide), q 86 (by decide) (by decide) (by decide) (by decide) (by decide) (by decide)]; exact c18
theorem sA_or (r : rS) (a i : Nat) (v : Int32) (j : Nat) : (sA r a i v).2.2.1 j = r.2.2.1 j ∨ j = a := by
  by_cases hj : j = a
  · exact Or.inr hj
  · exact Or.inl (sA_a _ _ _ hj)
theorem op_cbeg (hs : Sim K g r x h) (hi : i < (g.1 0 5)) (v : Int32) : Sim K g (sA r 125 i v) x (hset h ((g.1 6) i) 9 (.int v)) := by
  have hs' := hs
  obtain ⟨s0, pf, hC, bk, vr, kp, ft, flx, fw, fx⟩ := hs
  refine op_cal (g' := g) (r' := sA r 125 i v) hs' hi rfl rfl rfl pf.1 (fun b _ hr => hr) (fun b c hb hc => cell_x14 hb hc rfl (fun j => (sA_or r 125 i v j).elim (fun e => Or.inl e) (fun e => Or.inr (Or.inr (Or.inr (Or.inl e))))) rfl) (fun j c hj hjn hc => ?_) (fun c hc => ?_) (fun z => z) vr kp ft fw fx
  · unfold calC at hc ⊢
    rw [sA_K _ _ _ _ hj]
    exact hc
  · unfold calC at hc ⊢
    rw [sA_s]
    obtain ⟨t, q0, q1, q2, q3, q4, q5, q6, q7, q8, q9, q10, q11, q12, q13, q14, q15, q16⟩ := hc
    exact ⟨t, q0, q1, q2, q3, q4, q5, q6, q7, q8, rfl, q10, q11, q12, q13, q14, q15, q16⟩
theorem op_csends (hs : Sim K g r x h) (hi : i < (g.1 0 5)) (v : Int32) : Sim K g (sA r 121 i v) x (hset h ((g.1 6) i) 8 (.int v)) := by
  have hs' := hs
  obtain ⟨s0, pf, hC, bk, vr, kp, ft, flx, fw, fx⟩ := hs
  refine op_cal (g' := g) (r' := sA r 121 i v) hs' hi rfl rfl rfl pf.1 (fun b _ hr => hr) (fun b c hb hc => cell_x14 hb hc rfl (fun j => (sA_or r 121 i v j).elim (fun e => Or.inl e) (fun e => Or.inr (Or.inr (Or.inl e)))) rfl) (fun j c hj hjn hc => ?_) (fun c hc => ?_) (fun z => z) vr kp ft fw fx
  · unfold calC at hc ⊢
    rw [sA_K _ _ _ _ hj]
    exact hc
  · unfold calC at hc ⊢
    rw [sA_s]
    obtain ⟨t, q0, q1, q2, q3, q4, q5, q6, q7, q8, q9, q10, q11, q12, q13, q14, q15, q16⟩ := hc
    exact ⟨t, q0, q1, q2, q3, q4, q5, q6, q7, rfl, q9, q10, q11, q12, q13, q14, q15, q16⟩
theorem op_cmv (hs : Sim K g r x h) (hi : i < (g.1 0 5)) : Sim K g (sA r 130 i 0) x (hset h ((g.1 6) i) 10 (.int 0)) := by
  have hs' := hs
  obtain ⟨s0, pf, hC, bk, vr, kp, ft, flx, fw, fx⟩ := hs
  refine op_cal (g' := g) (r' := sA r 130 i 0) hs' hi rfl rfl rfl pf.1 (fun b _ hr => hr) (fun b c hb hc => cell_x14 hb hc rfl (fun j => (sA_or r 130 i 0 j).elim (fun e => Or.inl e) (fun e => Or.inr (Or.inr (Or.inr (Or.inr (Or.inl e)))))) rfl) (fun j c hj hjn hc => ?_) (fun c hc => ?_) (fun z => z) vr kp ft fw fx
  · unfold calC at hc ⊢
    rw [sA_K _ _ _ _ hj]
    exact hc
  · unfold calC at hc ⊢
    rw [sA_s, if_pos rfl]
    obtain ⟨t, q0, q1, q2, q3, q4, q5, q6, q7, q8, q9, q10, q11, q12, q13, q14, q15, q16⟩ := hc
    exact ⟨t, q0, q1, q2, q3, q4, q5, q6, q7, q8, q9, rfl, q11, q12, q13, q14, q15, q16⟩
theorem op_cst (hs : Sim K g r x h) (hi : i < (g.1 0 5)) {v : Int32} (h1 : (r.2.2.1 118) i ≠ 1) (h2 : (r.2.2.1 118) i ≠ 2) (v1 : v ≠ 1) (v2 : v ≠ 2) : Sim K g (sA r 118 i v) x (hset h ((g.1 6) i) 7 (.int v)) := by
  have hs' := hs
  obtain ⟨s0, pf, hC, bk, vr, kp, ft, flx, fw, fx⟩ := hs
  refine op_cal (g' := g) (r' := sA r 118 i v) hs' hi rfl rfl rfl pf.1 (fun b _ hr => hr) (fun b c hb hc => cell_x14 hb hc rfl (fun j => (sA_or r 118 i v j).elim (fun e => Or.inl e) (fun e => Or.inr (Or.inl e))) rfl) (fun j c hj hjn hc => ?_) (fun c hc => ?_) (fun z => z) vr (fun c hc => ?_) ft fw fx
  · unfold calC at hc ⊢
    rw [sA_K _ _ _ _ hj]
    exact hc
  · unfold calC at hc ⊢
    rw [sA_s]
    obtain ⟨t, q0, q1, q2, q3, q4, q5, q6, q7, q8, q9, q10, q11, q12, q13, q14, q15, q16⟩ := hc
    exact ⟨t, q0, q1, q2, q3, q4, q5, q6, rfl, q8, q9, q10, q11, q12, q13, q14, q15, q16⟩
  · obtain ⟨k1, k2, k3, k4, k5, k6, k7⟩ := kp c hc
    by_cases e : c = i
    · subst e
      rw [sA_s]
      exact ⟨k1, k2, k3, k4, ⟨fun _ => v1, fun _ => k5.mpr h1⟩, ⟨fun _ => v2, fun _ => k6.mpr h2⟩, k7⟩
    · rw [sA_K _ _ _ _ e]
      exact ⟨k1, k2, k3, k4, k5, k6, k7⟩
/-- an answer goes off the shelf -/
theorem op_csh0 (hs : Sim K g r x h) (hi : i < (g.1 0 5)) : Sim K (gN g 20 i 0) (sA r 126 i 0) x (hset h ((g.1 6) i) 12 .null) := by
  have hs' := hs
  obtain ⟨s0, pf, hC, bk, vr, kp, ft, flx, fw, fx⟩ := hs
  have hn : ∀ j, j ≠ i → (gN g 20 i 0).2.2.2.2.2 20 j = (g.2.2.2.2.2 20) j := fun j hj => upN_n _ _ hj
  have hsn : (gN g 20 i 0).2.2.2.2.2 20 i = 0 := upN_s _ _ _
  refine op_cal (g' := gN g 20 i 0) (r' := sA r 126 i 0) hs' hi rfl rfl rfl (fun p c hp => pf.1 p c ?_) (fun b hb hr => ?_) (fun b c hb hc => ?_) (fun j c hj hjn hc => ?_) (fun c hc => ?_) (fun z => z) vr (fun c hc => ?_) ft fw fx
  · rcases hp with hp | hp | hp | hp | hp | ⟨k, hk, hl⟩ | hp
    · exact Or.inl hp
    · exact Or.inr (Or.inl hp)
    · exact Or.inr (Or.inr (Or.inl hp))
    · exact Or.inr (Or.inr (Or.inr (Or.inl hp)))
    · exact Or.inr (Or.inr (Or.inr (Or.inr (Or.inl hp))))
    · refine Or.inr (Or.inr (Or.inr (Or.inr (Or.inr (Or.inl ⟨k, hk, ?_⟩)))))
      rcases hl with y | y | ⟨y1, y2, y3⟩ | y | y
      · exact Or.inl y
      · exact Or.inr (Or.inl y)
      · by_cases e : k = i
        · rw [e, hsn] at y1
          exact absurd rfl y1
        · rw [hn k e] at y1 y2
          exact Or.inr (Or.inr (Or.inl ⟨y1, y2, y3⟩))
      · exact Or.inr (Or.inr (Or.inr (Or.inl y)))
      · exact Or.inr (Or.inr (Or.inr (Or.inr y)))
    · exact Or.inr (Or.inr (Or.inr (Or.inr (Or.inr (Or.inr hp)))))
  · rcases hr with hp | hp | hp | hp | hp | ⟨k, hk, hl⟩ | hp
    · exact Or.inl hp
    · exact Or.inr (Or.inl hp)
    · exact Or.inr (Or.inr (Or.inl hp))
    · exact Or.inr (Or.inr (Or.inr (Or.inl hp)))
    · exact Or.inr (Or.inr (Or.inr (Or.inr (Or.inl hp))))
    · refine Or.inr (Or.inr (Or.inr (Or.inr (Or.inr (Or.inl ⟨k, hk, ?_⟩)))))
      rcases hl with y | y | ⟨y1, y2, y3⟩ | y | y
      · exact Or.inl y
      · exact Or.inr (Or.inl y)
      · rw [y3] at hb
        exact absurd hb (by decide)
      · exact Or.inr (Or.inr (Or.inr (Or.inl y)))
      · exact Or.inr (Or.inr (Or.inr (Or.inr y)))
    · exact Or.inr (Or.inr (Or.inr (Or.inr (Or.inr (Or.inr hp)))))
  · obtain ⟨c1, c2, c3, c4, c5, c6, c7, c8, c9, c10, c11, c12, c13, c14, c15, c16, c17, c18⟩ := hc
    exact ⟨c1, c2, c3, c4, c5, c6, c7, c8, c9, c10, c11, c12, c13, fun z => absurd z hb, c15, c16, c17, c18⟩
  · unfold calC at hc ⊢
    rw [hn j hj]
    exact hc
  · unfold calC at hc ⊢
    rw [hsn]
    obtain ⟨t, q0, q1, q2, q3, q4, q5, q6, q7, q8, q9, q10, q11, q12, q13, q14, q15, q16⟩ := hc
    exact ⟨t, q0, q1, q2, q3, q4, q5, q6, q7, q8, q9, q10, q11, rfl, q13, q14, q15, q16⟩
  · obtain ⟨k1, k2, k3, k4, k5, k6, k7⟩ := kp c hc
    by_cases e : c = i
    · subst e
      rw [hsn, sA_s]
      exact ⟨k1, k2, ⟨fun _ => rfl, fun _ => rfl⟩, fun z => absurd rfl z, k5, k6, k7⟩
    · rw [hn c e, sA_K _ _ _ _ e]
      exact ⟨k1, k2, k3, k4, k5, k6, k7⟩
end
