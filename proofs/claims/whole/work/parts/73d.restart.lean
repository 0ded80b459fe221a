/-! a desk starts anew -/
def cF {α : Type} (P : Nat → Bool) (f : Nat → α) (v : α) (k : Nat) : Nat → α := fun c => if c < k ∧ P c = true then v else f c
def cG {α : Type} (P : Nat → Bool) (f : Nat → α) (v : α) (k : Nat) : Nat → α := fun j => if 60 ≤ j ∧ j < 60 + k ∧ P (j - 60) = true then v else f j
theorem cF_0 {α : Type} (P : Nat → Bool) (f : Nat → α) (v : α) : cF P f v 0 = f := funext fun c => if_neg (by omega)
theorem cG_0 {α : Type} (P : Nat → Bool) (f : Nat → α) (v : α) : cG P f v 0 = f := funext fun c => if_neg (by omega)
theorem cF_y {α : Type} {P : Nat → Bool} (f : Nat → α) (v : α) {k : Nat} (h : P k = true) : upN (cF P f v k) k v = cF P f v (k + 1) := funext fun c => by
  unfold upN cF
  by_cases e : c = k
  · subst e
    rw [if_pos rfl, if_pos ⟨by omega, h⟩]
  · rw [if_neg e]
    by_cases e2 : c < k ∧ P c = true
    · rw [if_pos e2, if_pos ⟨by omega, e2.2⟩]
    · rw [if_neg e2, if_neg (fun z => e2 ⟨by omega, z.2⟩)]
theorem cF_n {α : Type} {P : Nat → Bool} (f : Nat → α) (v : α) {k : Nat} (h : P k = false) : cF P f v (k + 1) = cF P f v k := funext fun c => by
  unfold cF
  by_cases e : c = k
  · subst e
    rw [if_neg (fun z => by rw [h] at z; exact absurd z.2 (by decide)), if_neg (by omega)]
  · by_cases e2 : c < k ∧ P c = true
    · rw [if_pos e2, if_pos ⟨by omega, e2.2⟩]
    · rw [if_neg e2, if_neg (fun z => e2 ⟨by omega, z.2⟩)]
theorem cG_y {α : Type} {P : Nat → Bool} (f : Nat → α) (v : α) {k : Nat} (h : P k = true) : upN (cG P f v k) (60 + k) v = cG P f v (k + 1) := funext fun c => by
  unfold upN cG
  by_cases e : c = 60 + k
  · subst e
    rw [if_pos rfl, if_pos ⟨by omega, by omega, by rw [show 60 + k - 60 = k by omega]; exact h⟩]
  · rw [if_neg e]
    by_cases e2 : 60 ≤ c ∧ c < 60 + k ∧ P (c - 60) = true
    · rw [if_pos e2, if_pos ⟨e2.1, by omega, e2.2.2⟩]
    · rw [if_neg e2, if_neg (fun z => e2 ⟨z.1, by omega, z.2.2⟩)]
theorem cG_n {α : Type} {P : Nat → Bool} (f : Nat → α) (v : α) {k : Nat} (h : P k = false) : cG P f v (k + 1) = cG P f v k := funext fun c => by
  unfold cG
  by_cases e : c = 60 + k
  · subst e
    rw [if_neg (fun z => by rw [show 60 + k - 60 = k by omega, h] at z; exact absurd z.2.2 (by decide)), if_neg (by omega)]
  · by_cases e2 : 60 ≤ c ∧ c < 60 + k ∧ P (c - 60) = true
    · rw [if_pos e2, if_pos ⟨e2.1, by omega, e2.2.2⟩]
    · rw [if_neg e2, if_neg (fun z => e2 ⟨z.1, by omega, z.2.2⟩)]
theorem cG_u {α : Type} {P : Nat → Bool} (f : Nat → α) (v w : α) {k c : Nat} (h : c < 60) : upN (cG P f v k) c w = cG P (upN f c w) v k := funext fun j => by
  unfold upN cG
  dsimp only
  by_cases e : j = c
  · subst e
    rw [if_pos rfl, if_neg (by omega), if_pos rfl]
  · rw [if_neg e]
    by_cases e2 : 60 ≤ j ∧ j < 60 + k ∧ P (j - 60) = true
    · rw [if_pos e2, if_pos e2]
    · rw [if_neg e2, if_neg e2, if_neg e]
theorem cF_r {α : Type} {P : Nat → Bool} (f : Nat → α) (v : α) {k c : Nat} (h : k ≤ c) : cF P f v k c = f c := if_neg (by omega)
section
variable {K : Nat → pcell} {tb : Nat} {g g' g0 g1 : gS} {r r' r0 : rS} {x x' x1 : xS} {h h' h1 : pheap} {d : Nat} {Q : Option Value → pheap → Prop} {a n k m i j : Nat} {F1 F2 F3 B O : Nat → Nat}
def fgG (g : gS) (F1 F2 F3 : Nat → Nat) : gS := gF (gF (gF g 20 F1) 31 F2) 30 F3
theorem gS_ext {g g' : gS} (h1 : g.1 = g'.1) (h2 : g.2.1 = g'.2.1) (h3 : g.2.2.1 = g'.2.2.1) (h4 : g.2.2.2.1 = g'.2.2.2.1) (h5 : g.2.2.2.2.1 = g'.2.2.2.2.1) (h6 : ∀ a, g.2.2.2.2.2 a = g'.2.2.2.2.2 a) : g = g' := Prod.ext h1 (Prod.ext h2 (Prod.ext h3 (Prod.ext h4 (Prod.ext h5 (funext h6)))))
theorem gN_fg {c v : Nat} : gN (fgG g F1 F2 F3) 20 c v = fgG g (upN F1 c v) F2 F3 := gS_ext rfl rfl rfl rfl rfl (fun a => by
  show upN (upN (upN (upN g.2.2.2.2.2 20 F1) 31 F2) 30 F3) 20 (upN F1 c v) a = upN (upN (upN g.2.2.2.2.2 20 (upN F1 c v)) 31 F2) 30 F3 a
  by_cases e : a = 20
  · subst e; rfl
  · rw [upN_n _ _ e]
    by_cases e2 : a = 30
    · subst e2; rfl
    · rw [upN_n _ _ e2, upN_n _ _ e2]
      by_cases e3 : a = 31
      · subst e3; rfl
      · rw [upN_n _ _ e3, upN_n _ _ e3, upN_n _ _ e, upN_n _ _ e])
theorem icG_fg : icG (fgG g F1 F2 F3) B O ((g.2.2.2.2.2 29)) = fgG g F1 B O := gS_ext rfl rfl rfl rfl rfl (fun a => by
  show upN (upN (upN (upN (upN (upN g.2.2.2.2.2 20 F1) 31 F2) 30 F3) 31 B) 30 O) 29 ((g.2.2.2.2.2 29)) a = upN (upN (upN g.2.2.2.2.2 20 F1) 31 B) 30 O a
  by_cases e : a = 29
  · subst e; rfl
  · rw [upN_n _ _ e]
    by_cases e2 : a = 30
    · subst e2; rfl
    · rw [upN_n _ _ e2, upN_n _ _ e2]
      by_cases e3 : a = 31
      · subst e3; rfl
      · rw [upN_n _ _ e3, upN_n _ _ e3, upN_n _ _ e2, upN_n _ _ e3])
def fgR (r : rS) (R1 R2 R3 R4 R5 R6 : Nat → Int32) : rS := sR (sR (sR (sR (sR (sR r 126 R1) 125 R2) 143 R3) 144 R4) 118 R5) 120 R6
def pS (g : gS) (i c : Nat) : Bool := decide ((g.2.2.2.2.2 15) c = i)
def pC (g : gS) (i c : Nat) : Bool := decide ((g.2.2.2.2.2 14) c = i)
def pW (g : gS) (r : rS) (i c : Nat) : Bool := decide ((g.2.2.2.2.2 14) c = i ∧ (r.2.2.1 118) c = 0)
def rsG (g : gS) (i k1 k2 : Nat) : gS := fgG g (cF (pS g i) ((g.2.2.2.2.2 20)) 0 k1) (cG (pC g i) (cF (pS g i) ((g.2.2.2.2.2 31)) 0 k1) 0 k2) (cG (pC g i) (cF (pS g i) ((g.2.2.2.2.2 30)) 0 k1) 0 k2)
def rsR (g : gS) (r : rS) (i k1 k2 : Nat) : rS := fgR r (cF (pS g i) ((r.2.2.1 126)) 0 k1) (cF (pS g i) ((r.2.2.1 125)) 0 k1) (cG (pC g i) (cF (pS g i) ((r.2.2.1 143)) 0 k1) 0 k2) (cG (pC g i) (cF (pS g i) ((r.2.2.1 144)) 0 k1) 0 k2) (cF (pW g r i) ((r.2.2.1 118)) 5 k2) (cF (pW g r i) ((r.2.2.1 120)) 0 k2)
theorem x_getc (hs : Sim K g r x h) (hn : (g.1 0 5) ≤ 60) (hi : i < (g.1 0 5)) : Go (d + 3) 49 0 [.ref 24, .int (nI i)] [] (putR r0 (putX x h)) Q = Q (some (.ref ((g.1 6) i))) (putR r0 (putX x h)) := by
  obtain ⟨l1, l2, l3, l4, l5, l6, l7, l8⟩ := sim_lst hs (q := 6) (by decide) (by decide) (show (g.1 0 5) ≤ 60 from hn)
  have hh := sim_146 hs
  have l1' : x.1 24 2 = nI (g.1 0 5) := l1
  have l6' : (g.1 0 5) ≤ (h.2.2 (x.2 6)).2.1 := l6
  have l8' : (h.2.2 (x.2 6)).2.2 i = .ref ((g.1 6) i) := l8 i hi
  have he : 146 ≤ x.2 6 := by
    rcases l3 with l3 | l3
    · exact absurd hi (by have : (g.1 0 5) = 0 := l3.2; omega)
    · exact l3
  simp (disch := first | exact c1_i _ | exact c1_r _ | exact c1_n | exact c1_m | omega | assumption | (apply ac_l; omega) | (apply ac_r; omega) | decide | exact Or.inl rfl) only [e_49_0, e_49_1, e_49_1n, e_49_2, e_49_5, e_49_8, e_49_9, e_49_9n, e_49_10, e_49_11, e_49_14, e_49_14n, e_36_0, e_36_0n, e_36_1, e_36_4, e_49_0, e_49_1, e_49_1n, e_49_2, e_49_5, e_49_8, e_49_9, e_49_9n, e_49_10, e_49_11, e_49_14, e_49_14n, e_50_0, e_50_1, e_50_2, e_50_3, e_50_6, e_51_0, e_51_1, e_51_4, e_51_5, e_51_6, e_51_9, e_51_9n, e_51_10, e_51_11, e_51_16, e_51_17, e_52_0, e_52_0n, e_52_1, e_52_4, e_52_5, e_52_6, e_52_6n, Option.toList_some, Option.toList_none, List.cons_append, List.nil_append, catS_cons, catS_nil, cat_int, cat_long, cat_ref, cat_null, c1_i, c1_r, c1_n, c1_m, true_and, and_true, and_self, putR_1, putR_u, eq_self, Nat.reduceLT, Nat.reduceLeDiff, Nat.reduceAdd, Nat.reduceEqDiff, vk_i, vk_l, vk_r, vk_n, vk_0, vk_1, if_true, if_false, not_true_eq_false, not_false_eq_true, false_and, and_false, ne_eq, true_or, or_true, ite_not, reduceCtorEq, putX_1, putX_u, putX_hi, hset_Xhi, px_5, xf_5_0, xf_5_1, xI_5_1, xf_5_2, xR_0, xf_5_3, xI_5_3, xf_5_4, xI_5_4, xf_5_5, xf_5_6, xI_5_6, xf_5_7, xf_5_8, xf_5_9, xf_5_10, xf_5_11, xf_5_12, xf_5_13, xf_5_14, xf_5_15, xI_5_15, px_6, xA_6, px_18, xA_18, px_19, xf_19_0, xI_19_0, xf_19_1, xR_1, xf_19_2, xI_19_2, px_20, xf_20_0, xI_20_0, xf_20_1, xR_2, xf_20_2, xI_20_2, px_21, xf_21_0, xI_21_0, xf_21_1, xR_3, xf_21_2, xI_21_2, px_22, xf_22_0, xI_22_0, xf_22_1, xR_4, xf_22_2, xI_22_2, px_23, xf_23_0, xI_23_0, xf_23_1, xR_5, xf_23_2, xI_23_2, px_24, xf_24_0, xI_24_0, xf_24_1, xR_6, xf_24_2, xI_24_2, px_25, xf_25_0, xI_25_0, xf_25_1, xI_25_1, xf_25_2, xf_25_3, xI_25_3, xf_25_4, xf_25_5, xf_25_6, px_26, xA_26, px_27, px_28, xA_28, px_29, xA_29, px_30, xA_30, px_31, xA_31, px_32, xA_32, px_33, xA_33, px_34, xA_34, px_35, xA_35, px_36, xA_36, px_37, xA_37, px_38, xA_38, px_39, xA_39, px_40, xA_40, px_41, xA_41, px_42, xA_42, px_43, xA_43, px_44, xA_44, px_45, xA_45, px_46, xA_46, px_47, xA_47, px_48, xA_48, px_49, xA_49, px_50, xA_50, px_51, xA_51, px_52, xA_52, px_53, xA_53, px_54, xA_54, px_55, xA_55, px_56, xA_56, px_57, xA_57, px_58, xA_58, px_59, xA_59, px_60, xA_60, px_61, xA_61, px_62, xA_62, px_63, xA_63, px_64, xA_64, px_65, xA_65, px_66, xA_66, px_67, xA_67, px_68, xA_68, px_69, xA_69, px_70, xf_70_0, xI_70_0, xf_70_1, xI_70_1, xf_70_2, xI_70_2, xf_70_3, xf_70_4, px_71, xA_71, px_72, xA_72, putR_lo, hset_lo, putR_lt hh, l1', ni_lt0, ni_le, ni_lt, ni_ix, ni_clamp, rd_hi, l4, l5, l8', le_f, le_t, lt_t, lt_f]
/-- what the loop needs of the world that was -/
def RsH (g : gS) (r : rS) : Prop := (g.1 0 5) ≤ 60 ∧ (g.1 0 3) ≤ 8 ∧ (r.1 57) = nI (g.1 0 5) ∧ (∀ c, c < (g.1 0 5) → (r.2.2.1 114) c = nI ((g.2.2.2.2.2 14) c) ∧ (g.2.2.2.2.2 14) c < (g.1 0 3) ∧ (r.2.2.1 117) c = nI ((g.2.2.2.2.2 15) c) ∧ (g.2.2.2.2.2 15) c < (g.1 0 3)) ∧ (∀ j, j < 120 → (g.2.2.2.2.2 23) j ≠ 0 → (g.2.2.2.2.2 30) j ≤ 10) ∧ (∀ j p, j < 120 → p < 10 → (g.2.2.2.2.2 29) (10 * j + p) ≤ 24) ∧ ∀ c, c < (g.1 0 5) → ∃ s, s ≤ 5 ∧ (r.2.2.1 118) c = nI s
theorem w_rsH (hw : World K tb g r x h) : RsH g r := by
  obtain ⟨c1, c2, c3⟩ := w_nc hw
  obtain ⟨d1, d2, d3⟩ := w_nd hw
  refine ⟨c2, d2, c1, fun c hc => ?_, fun j hj hz => ?_, fun j p hj hp => (hw.2.2.2.1.1 j p hj hp).2, fun c hc => ?_⟩
  · obtain ⟨u1, u2, u3, u4, -⟩ := w_cal hw c hc
    exact ⟨u1, u2, u3, u4⟩
  · have w2 := (w_way hw).2
    by_cases h6 : j < 60
    · obtain ⟨y1, y2, y3⟩ := w2 j h6 0 (by omega)
      simp only [Nat.mul_zero, Nat.zero_add] at y1 y2 y3
      have hjn : j < (g.1 0 5) := Nat.lt_of_not_le (fun z => hz (y1 z).1)
      exact (y3 hjn).2.2.2
    · obtain ⟨y1, y2, y3⟩ := w2 (j - 60) (by omega) 1 (by omega)
      rw [show 60 * 1 + (j - 60) = j by omega] at y1 y2 y3
      have hjn : j - 60 < (g.1 0 5) := Nat.lt_of_not_le (fun z => hz (y1 z).1)
      exact (y3 hjn).2.2.2
  · obtain ⟨-, -, -, -, -, -, -, -, -, -, -, u, -⟩ := w_cal hw c hc
    exact u
theorem rs_of (hH : RsH g r) {k1 k2 : Nat} : (∀ j, j < 120 → (rsG g i k1 k2).2.2.2.2.2 23 j ≠ 0 → (rsG g i k1 k2).2.2.2.2.2 30 j ≤ 10) := fun j hj hz => by
  have := hH.2.2.2.2.1 j hj hz
  show cG _ (cF _ _ 0 k1) 0 k2 j ≤ 10
  unfold cG cF
  split
  · omega
  · split
    · omega
    · exact this
theorem rs_1 (hH : RsH g r) (hs : Sim K (rsG g i k k) (rsR g r i k k) x h) (hk : k < (g.1 0 5)) (hi : i < (g.1 0 3)) : ∃ h', Sim K (rsG g i (k + 1) k) (rsR g r i (k + 1) k) x h' ∧ h'.1 = h.1 ∧ h'.2.1 = h.2.1 ∧ ∀ d r0 Q, Go (d + 2) 160 0 [.ref ((g.1 6) k), .ref ((g.1 4) i)] [] (putR r0 (putX x h)) Q = Go (d + 2) 160 32 [.ref ((g.1 6) k), .ref ((g.1 4) i)] [] (putR r0 (putX x h')) Q := by
  have hof := rs_of (i := i) (k1 := k) (k2 := k) hH
  obtain ⟨y1, y2, y3, y4, y5, y6, y7⟩ := hH
  obtain ⟨u1, u2, u3, u4⟩ := y4 k hk
  have hh := sim_146 hs
  obtain ⟨a1, a2, ⟨t, q0, q1, q2, q3, q4, q5, q6, q7, q8, q9, q10, q11, q12, q13, q14, q15, q16⟩⟩ := s_cal hs (i := k) hk
  obtain ⟨b1, b2, -⟩ := s_dsk hs (i := (g.2.2.2.2.2 15) k) u4
  obtain ⟨j1, j2, -⟩ := s_dsk hs (i := i) hi
  have a1' : 146 ≤ (g.1 6) k := a1
  have a2' : (g.1 6) k < h.1 := a2
  have b1' : 146 ≤ (g.1 4) ((g.2.2.2.2.2 15) k) := b1
  have j1' : 146 ≤ (g.1 4) i := j1
  have t' : (h.2.2 ((g.1 6) k)).1 = 3 := t
  have q2' : (h.2.2 ((g.1 6) k)).2.2 2 = .ref ((g.1 4) ((g.2.2.2.2.2 15) k)) := q2
  have q15' : (h.2.2 ((g.1 6) k)).2.2 15 = pv ((g.2.2.2.2.2 23) k) := q15
  have hd : ((g.1 4) ((g.2.2.2.2.2 15) k) = (g.1 4) i) = ((g.2.2.2.2.2 15) k = i) := d_eq hs (i := (g.2.2.2.2.2 15) k) (j := i) u4 hi
  by_cases hc : (g.2.2.2.2.2 15) k = i
  · have hP : pS g i k = true := decide_eq_true hc
    have s1 := op_cbeg hs (i := k) hk 0
    have s2 := op_csh0 s1 (i := k) hk
    have eR : sA (sA (rsR g r i k k) 125 k 0) 126 k 0 = fgR r (cF (pS g i) ((r.2.2.1 126)) 0 (k + 1)) (cF (pS g i) ((r.2.2.1 125)) 0 (k + 1)) (cG (pC g i) (cF (pS g i) ((r.2.2.1 143)) 0 k) 0 k) (cG (pC g i) (cF (pS g i) ((r.2.2.1 144)) 0 k) 0 k) (cF (pW g r i) ((r.2.2.1 118)) 5 k) (cF (pW g r i) ((r.2.2.1 120)) 0 k) := by
      unfold rsR fgR
      simp (disch := decide) only [sA_R2, sA_R, cF_y _ _ hP]
    rw [eR] at s2
    have eG : gN (rsG g i k k) 20 k 0 = fgG g (cF (pS g i) ((g.2.2.2.2.2 20)) 0 (k + 1)) (cG (pC g i) (cF (pS g i) ((g.2.2.2.2.2 31)) 0 k) 0 k) (cG (pC g i) (cF (pS g i) ((g.2.2.2.2.2 30)) 0 k) 0 k) := by
      unfold rsG
      rw [gN_fg, cF_y _ _ hP]
    rw [eG] at s2
    have eB : upN (cG (pC g i) (cF (pS g i) ((g.2.2.2.2.2 31)) 0 k) 0 k) k 0 = cG (pC g i) (cF (pS g i) ((g.2.2.2.2.2 31)) 0 (k + 1)) 0 k := by rw [cG_u _ _ _ (by omega), cF_y _ _ hP]
    have eO : upN (cG (pC g i) (cF (pS g i) ((g.2.2.2.2.2 30)) 0 k) 0 k) k 0 = cG (pC g i) (cF (pS g i) ((g.2.2.2.2.2 30)) 0 (k + 1)) 0 k := by rw [cG_u _ _ _ (by omega), cF_y _ _ hP]
    by_cases hz : (g.2.2.2.2.2 23) k = 0
    · rw [hz] at q15'
      have s3 := op_inc0 s2 (B := upN (cG (pC g i) (cF (pS g i) ((g.2.2.2.2.2 31)) 0 k) 0 k) k 0) (O := upN (cG (pC g i) (cF (pS g i) ((g.2.2.2.2.2 30)) 0 k) 0 k) k 0) (fun j hj => ⟨upN_n _ _ (fun z => hj (by rw [z]; exact hz)), upN_n _ _ (fun z => hj (by rw [z]; exact hz))⟩)
      have s3' : Sim K (icG (fgG g (cF (pS g i) ((g.2.2.2.2.2 20)) 0 (k + 1)) (cG (pC g i) (cF (pS g i) ((g.2.2.2.2.2 31)) 0 k) 0 k) (cG (pC g i) (cF (pS g i) ((g.2.2.2.2.2 30)) 0 k) 0 k)) (upN (cG (pC g i) (cF (pS g i) ((g.2.2.2.2.2 31)) 0 k) 0 k) k 0) (upN (cG (pC g i) (cF (pS g i) ((g.2.2.2.2.2 30)) 0 k) 0 k) k 0) ((g.2.2.2.2.2 29))) _ x _ := s3
      rw [icG_fg, eB, eO] at s3'
      refine ⟨_, s3', rfl, rfl, fun d r0 Q => ?_⟩
      show _ = Go (d + 2) 160 32 [.ref ((g.1 6) k), .ref ((g.1 4) i)] [] (putR r0 (putX x (hset (hset h ((g.1 6) k) 9 (.int 0)) ((g.1 6) k) 12 .null))) Q
      simp (disch := first | exact c1_i _ | exact c1_r _ | exact c1_n | exact c1_m | omega | assumption | (apply ac_l; omega) | (apply ac_r; omega) | decide | exact Or.inl rfl) only [e_160_0, e_160_0n, e_160_1, e_160_4, e_160_4n, e_160_5, e_160_5nr, e_160_5rn, e_160_5nn, e_160_8, e_160_8n, e_160_9, e_160_10, e_160_13, e_160_13n, e_160_14, e_160_15, e_160_18, e_160_18n, e_160_19, e_160_22n, e_160_22, e_160_25, e_160_25n, e_160_26, e_160_29, Option.toList_some, Option.toList_none, List.cons_append, List.nil_append, catS_cons, catS_nil, cat_int, cat_long, cat_ref, cat_null, c1_i, c1_r, c1_n, c1_m, true_and, and_true, and_self, putR_1, putR_u, eq_self, Nat.reduceLT, Nat.reduceLeDiff, Nat.reduceAdd, Nat.reduceEqDiff, vk_i, vk_l, vk_r, vk_n, vk_0, vk_1, if_true, if_false, not_true_eq_false, not_false_eq_true, false_and, and_false, ne_eq, true_or, or_true, ite_not, reduceCtorEq, putX_1, putX_u, putX_hi, hset_Xhi, px_5, xf_5_0, xf_5_1, xI_5_1, xf_5_2, xR_0, xf_5_3, xI_5_3, xf_5_4, xI_5_4, xf_5_5, xf_5_6, xI_5_6, xf_5_7, xf_5_8, xf_5_9, xf_5_10, xf_5_11, xf_5_12, xf_5_13, xf_5_14, xf_5_15, xI_5_15, px_6, xA_6, px_18, xA_18, px_19, xf_19_0, xI_19_0, xf_19_1, xR_1, xf_19_2, xI_19_2, px_20, xf_20_0, xI_20_0, xf_20_1, xR_2, xf_20_2, xI_20_2, px_21, xf_21_0, xI_21_0, xf_21_1, xR_3, xf_21_2, xI_21_2, px_22, xf_22_0, xI_22_0, xf_22_1, xR_4, xf_22_2, xI_22_2, px_23, xf_23_0, xI_23_0, xf_23_1, xR_5, xf_23_2, xI_23_2, px_24, xf_24_0, xI_24_0, xf_24_1, xR_6, xf_24_2, xI_24_2, px_25, xf_25_0, xI_25_0, xf_25_1, xI_25_1, xf_25_2, xf_25_3, xI_25_3, xf_25_4, xf_25_5, xf_25_6, px_26, xA_26, px_27, px_28, xA_28, px_29, xA_29, px_30, xA_30, px_31, xA_31, px_32, xA_32, px_33, xA_33, px_34, xA_34, px_35, xA_35, px_36, xA_36, px_37, xA_37, px_38, xA_38, px_39, xA_39, px_40, xA_40, px_41, xA_41, px_42, xA_42, px_43, xA_43, px_44, xA_44, px_45, xA_45, px_46, xA_46, px_47, xA_47, px_48, xA_48, px_49, xA_49, px_50, xA_50, px_51, xA_51, px_52, xA_52, px_53, xA_53, px_54, xA_54, px_55, xA_55, px_56, xA_56, px_57, xA_57, px_58, xA_58, px_59, xA_59, px_60, xA_60, px_61, xA_61, px_62, xA_62, px_63, xA_63, px_64, xA_64, px_65, xA_65, px_66, xA_66, px_67, xA_67, px_68, xA_68, px_69, xA_69, px_70, xf_70_0, xI_70_0, xf_70_1, xI_70_1, xf_70_2, xI_70_2, xf_70_3, xf_70_4, px_71, xA_71, px_72, xA_72, ni_ixL, ni_clL, ni_add, ni_mul, ni_lt, ni_le, ni_eq, ni_clamp, ni_ix, ni_lt0, ni_0le, ni_ltL, ni_Llt, ni_leL, ni_Lle, ni_eqL, ni_addL, ni_Ladd, ni_mulL, ni_Lmul, ni_subL, ni_sub, ni_Lsub, le_t, le_f, lt_t, lt_f, eq_f, il_lt, il_l0, il_g0, il_l1, il_g1, il_l2, il_g2, il_l3, il_g3, il_l4, il_g4, il_l5, il_g5, il_l7, il_g7, il_l8, il_g8, il_l9, il_g9, il_l10, il_g10, il_l15, il_g15, il_l20, il_g20, il_l23, il_g23, il_l24, il_g24, il_l60, il_g60, il_l100, il_g100, il_l999, il_g999, il_l1000, il_g1000, putR_lo, hset_lo, putR_lt hh, rd_hi, wr_hi, hs_1, hs_s, hs_o, uv_s, uv_o, pv_0, pv_n, i1_0, bs_0, bs_1, im_lt, im_ge, im_eq, ni_em, t', q2', q15', hd, hc]
    · rw [pv_n hz] at q15'
      have hj : k < 120 ∧ (g.2.2.2.2.2 23) k ≠ 0 := ⟨by omega, hz⟩
      obtain ⟨f1, f2, f3, -⟩ := s_inc s2 (i := k) hj
      have f1' : 146 ≤ (g.2.2.2.2.2 23) k := f1
      have f2' : (g.2.2.2.2.2 23) k < h.1 := f2
      have f3' : ((hset (hset h ((g.1 6) k) 9 (.int 0)) ((g.1 6) k) 12 .null).2.2 ((g.2.2.2.2.2 23) k)).1 = 6 := f3
      have hne : (g.2.2.2.2.2 23) k ≠ (g.1 6) k := r_ne hs (ref_inc (i := k) hj) (ref_cal (i := k) hk) rfl
      rw [hs_o _ _ hne, hs_o _ _ hne] at f3'
      have s3 := op_drop s2 hj hof y6
      have s3' : Sim K (icG (fgG g (cF (pS g i) ((g.2.2.2.2.2 20)) 0 (k + 1)) (cG (pC g i) (cF (pS g i) ((g.2.2.2.2.2 31)) 0 k) 0 k) (cG (pC g i) (cF (pS g i) ((g.2.2.2.2.2 30)) 0 k) 0 k)) (upN (cG (pC g i) (cF (pS g i) ((g.2.2.2.2.2 31)) 0 k) 0 k) k 0) (upN (cG (pC g i) (cF (pS g i) ((g.2.2.2.2.2 30)) 0 k) 0 k) k 0) ((g.2.2.2.2.2 29))) _ x _ := s3
      rw [icG_fg, eB, eO] at s3'
      have hx := fun d r0 Q => x_drop (d := d) (r0 := r0) (Q := Q) s2 (j := k) hj
      have hx' : ∀ d r0 Q, Go (d + 1) 137 0 [.ref ((g.2.2.2.2.2 23) k), mk0] [] (putR r0 (putX x (hset (hset h ((g.1 6) k) 9 (.int 0)) ((g.1 6) k) 12 .null))) Q = Q none (putR r0 (putX x (drH (hset (hset h ((g.1 6) k) 9 (.int 0)) ((g.1 6) k) 12 .null) ((g.2.2.2.2.2 23) k)))) := hx
      refine ⟨_, s3', rfl, rfl, fun d r0 Q => ?_⟩
      show _ = Go (d + 2) 160 32 [.ref ((g.1 6) k), .ref ((g.1 4) i)] [] (putR r0 (putX x (drH (hset (hset h ((g.1 6) k) 9 (.int 0)) ((g.1 6) k) 12 .null) ((g.2.2.2.2.2 23) k)))) Q
      simp (disch := first | exact c1_i _ | exact c1_r _ | exact c1_n | exact c1_m | omega | assumption | (apply ac_l; omega) | (apply ac_r; omega) | decide | exact Or.inl rfl) only [e_160_0, e_160_0n, e_160_1, e_160_4, e_160_4n, e_160_5, e_160_5nr, e_160_5rn, e_160_5nn, e_160_8, e_160_8n, e_160_9, e_160_10, e_160_13, e_160_13n, e_160_14, e_160_15, e_160_18, e_160_18n, e_160_19, e_160_22n, e_160_22, e_160_25, e_160_25n, e_160_26, e_160_29, Option.toList_some, Option.toList_none, List.cons_append, List.nil_append, catS_cons, catS_nil, cat_int, cat_long, cat_ref, cat_null, c1_i, c1_r, c1_n, c1_m, true_and, and_true, and_self, putR_1, putR_u, eq_self, Nat.reduceLT, Nat.reduceLeDiff, Nat.reduceAdd, Nat.reduceEqDiff, vk_i, vk_l, vk_r, vk_n, vk_0, vk_1, if_true, if_false, not_true_eq_false, not_false_eq_true, false_and, and_false, ne_eq, true_or, or_true, ite_not, reduceCtorEq, putX_1, putX_u, putX_hi, hset_Xhi, px_5, xf_5_0, xf_5_1, xI_5_1, xf_5_2, xR_0, xf_5_3, xI_5_3, xf_5_4, xI_5_4, xf_5_5, xf_5_6, xI_5_6, xf_5_7, xf_5_8, xf_5_9, xf_5_10, xf_5_11, xf_5_12, xf_5_13, xf_5_14, xf_5_15, xI_5_15, px_6, xA_6, px_18, xA_18, px_19, xf_19_0, xI_19_0, xf_19_1, xR_1, xf_19_2, xI_19_2, px_20, xf_20_0, xI_20_0, xf_20_1, xR_2, xf_20_2, xI_20_2, px_21, xf_21_0, xI_21_0, xf_21_1, xR_3, xf_21_2, xI_21_2, px_22, xf_22_0, xI_22_0, xf_22_1, xR_4, xf_22_2, xI_22_2, px_23, xf_23_0, xI_23_0, xf_23_1, xR_5, xf_23_2, xI_23_2, px_24, xf_24_0, xI_24_0, xf_24_1, xR_6, xf_24_2, xI_24_2, px_25, xf_25_0, xI_25_0, xf_25_1, xI_25_1, xf_25_2, xf_25_3, xI_25_3, xf_25_4, xf_25_5, xf_25_6, px_26, xA_26, px_27, px_28, xA_28, px_29, xA_29, px_30, xA_30, px_31, xA_31, px_32, xA_32, px_33, xA_33, px_34, xA_34, px_35, xA_35, px_36, xA_36, px_37, xA_37, px_38, xA_38, px_39, xA_39, px_40, xA_40, px_41, xA_41, px_42, xA_42, px_43, xA_43, px_44, xA_44, px_45, xA_45, px_46, xA_46, px_47, xA_47, px_48, xA_48, px_49, xA_49, px_50, xA_50, px_51, xA_51, px_52, xA_52, px_53, xA_53, px_54, xA_54, px_55, xA_55, px_56, xA_56, px_57, xA_57, px_58, xA_58, px_59, xA_59, px_60, xA_60, px_61, xA_61, px_62, xA_62, px_63, xA_63, px_64, xA_64, px_65, xA_65, px_66, xA_66, px_67, xA_67, px_68, xA_68, px_69, xA_69, px_70, xf_70_0, xI_70_0, xf_70_1, xI_70_1, xf_70_2, xI_70_2, xf_70_3, xf_70_4, px_71, xA_71, px_72, xA_72, ni_ixL, ni_clL, ni_add, ni_mul, ni_lt, ni_le, ni_eq, ni_clamp, ni_ix, ni_lt0, ni_0le, ni_ltL, ni_Llt, ni_leL, ni_Lle, ni_eqL, ni_addL, ni_Ladd, ni_mulL, ni_Lmul, ni_subL, ni_sub, ni_Lsub, le_t, le_f, lt_t, lt_f, eq_f, il_lt, il_l0, il_g0, il_l1, il_g1, il_l2, il_g2, il_l3, il_g3, il_l4, il_g4, il_l5, il_g5, il_l7, il_g7, il_l8, il_g8, il_l9, il_g9, il_l10, il_g10, il_l15, il_g15, il_l20, il_g20, il_l23, il_g23, il_l24, il_g24, il_l60, il_g60, il_l100, il_g100, il_l999, il_g999, il_l1000, il_g1000, putR_lo, hset_lo, putR_lt hh, rd_hi, wr_hi, hs_1, hs_s, hs_o, uv_s, uv_o, pv_0, pv_n, i1_0, bs_0, bs_1, im_lt, im_ge, im_eq, ni_em, t', q2', q15', hd, hc, f3', hx']
  · have hP : pS g i k = false := decide_eq_false hc
    refine ⟨h, ?_, rfl, rfl, fun d r0 Q => ?_⟩
    · unfold rsG rsR at hs ⊢
      rw [cF_n _ _ hP, cF_n _ _ hP, cF_n _ _ hP, cF_n _ _ hP, cF_n _ _ hP, cF_n _ _ hP, cF_n _ _ hP]
      exact hs
    · simp (disch := first | exact c1_i _ | exact c1_r _ | exact c1_n | exact c1_m | omega | assumption | (apply ac_l; omega) | (apply ac_r; omega) | decide | exact Or.inl rfl) only [e_160_0, e_160_0n, e_160_1, e_160_4, e_160_4n, e_160_5, e_160_5nr, e_160_5rn, e_160_5nn, Option.toList_some, Option.toList_none, List.cons_append, List.nil_append, catS_cons, catS_nil, cat_int, cat_long, cat_ref, cat_null, c1_i, c1_r, c1_n, c1_m, true_and, and_true, and_self, putR_1, putR_u, eq_self, Nat.reduceLT, Nat.reduceLeDiff, Nat.reduceAdd, Nat.reduceEqDiff, vk_i, vk_l, vk_r, vk_n, vk_0, vk_1, if_true, if_false, not_true_eq_false, not_false_eq_true, false_and, and_false, ne_eq, true_or, or_true, ite_not, reduceCtorEq, putX_1, putX_u, putX_hi, hset_Xhi, px_5, xf_5_0, xf_5_1, xI_5_1, xf_5_2, xR_0, xf_5_3, xI_5_3, xf_5_4, xI_5_4, xf_5_5, xf_5_6, xI_5_6, xf_5_7, xf_5_8, xf_5_9, xf_5_10, xf_5_11, xf_5_12, xf_5_13, xf_5_14, xf_5_15, xI_5_15, px_6, xA_6, px_18, xA_18, px_19, xf_19_0, xI_19_0, xf_19_1, xR_1, xf_19_2, xI_19_2, px_20, xf_20_0, xI_20_0, xf_20_1, xR_2, xf_20_2, xI_20_2, px_21, xf_21_0, xI_21_0, xf_21_1, xR_3, xf_21_2, xI_21_2, px_22, xf_22_0, xI_22_0, xf_22_1, xR_4, xf_22_2, xI_22_2, px_23, xf_23_0, xI_23_0, xf_23_1, xR_5, xf_23_2, xI_23_2, px_24, xf_24_0, xI_24_0, xf_24_1, xR_6, xf_24_2, xI_24_2, px_25, xf_25_0, xI_25_0, xf_25_1, xI_25_1, xf_25_2, xf_25_3, xI_25_3, xf_25_4, xf_25_5, xf_25_6, px_26, xA_26, px_27, px_28, xA_28, px_29, xA_29, px_30, xA_30, px_31, xA_31, px_32, xA_32, px_33, xA_33, px_34, xA_34, px_35, xA_35, px_36, xA_36, px_37, xA_37, px_38, xA_38, px_39, xA_39, px_40, xA_40, px_41, xA_41, px_42, xA_42, px_43, xA_43, px_44, xA_44, px_45, xA_45, px_46, xA_46, px_47, xA_47, px_48, xA_48, px_49, xA_49, px_50, xA_50, px_51, xA_51, px_52, xA_52, px_53, xA_53, px_54, xA_54, px_55, xA_55, px_56, xA_56, px_57, xA_57, px_58, xA_58, px_59, xA_59, px_60, xA_60, px_61, xA_61, px_62, xA_62, px_63, xA_63, px_64, xA_64, px_65, xA_65, px_66, xA_66, px_67, xA_67, px_68, xA_68, px_69, xA_69, px_70, xf_70_0, xI_70_0, xf_70_1, xI_70_1, xf_70_2, xI_70_2, xf_70_3, xf_70_4, px_71, xA_71, px_72, xA_72, ni_ixL, ni_clL, ni_add, ni_mul, ni_lt, ni_le, ni_eq, ni_clamp, ni_ix, ni_lt0, ni_0le, ni_ltL, ni_Llt, ni_leL, ni_Lle, ni_eqL, ni_addL, ni_Ladd, ni_mulL, ni_Lmul, ni_subL, ni_sub, ni_Lsub, le_t, le_f, lt_t, lt_f, eq_f, il_lt, il_l0, il_g0, il_l1, il_g1, il_l2, il_g2, il_l3, il_g3, il_l4, il_g4, il_l5, il_g5, il_l7, il_g7, il_l8, il_g8, il_l9, il_g9, il_l10, il_g10, il_l15, il_g15, il_l20, il_g20, il_l23, il_g23, il_l24, il_g24, il_l60, il_g60, il_l100, il_g100, il_l999, il_g999, il_l1000, il_g1000, putR_lo, hset_lo, putR_lt hh, rd_hi, wr_hi, hs_1, hs_s, hs_o, uv_s, uv_o, pv_0, pv_n, i1_0, bs_0, bs_1, im_lt, im_ge, im_eq, ni_em, t', q2', hd, hc]
end
