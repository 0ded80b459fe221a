/-! the class's fixed part: int contents by address and place; references that change (0 the book, 1..6 the rows of the lists inHand, nodes, failures, desks, things, calls) -/
abbrev xS : Type := (Nat → Nat → Int32) × (Nat → Nat)
def xFx : List Nat := [5, 6, 18, 19, 20, 21, 22, 23, 24, 25, 26, 27, 28, 29, 30, 31, 32, 33, 34, 35, 36, 37, 38, 39, 40, 41, 42, 43, 44, 45, 46, 47, 48, 49, 50, 51, 52, 53, 54, 55, 56, 57, 58, 59, 60, 61, 62, 63, 64, 65, 66, 67, 68, 69, 70, 71, 72]
def xTL : List (Nat × Nat) := [(12, 16), (22, 1500), (1, 13), (21, 8), (21, 6), (21, 8), (20, 9), (20, 6), (20, 36), (20, 8), (20, 64), (20, 64), (20, 192), (22, 16), (0, 3), (0, 3), (0, 3), (0, 3), (0, 3), (0, 3), (10, 7), (22, 29), (27, 40), (22, 29), (22, 29), (22, 29), (22, 29), (22, 29), (22, 29), (22, 29), (22, 29), (22, 29), (22, 29), (22, 29), (22, 29), (22, 29), (22, 29), (22, 29), (22, 29), (22, 29), (22, 29), (22, 29), (22, 29), (22, 29), (22, 29), (22, 29), (22, 29), (22, 29), (22, 29), (22, 29), (22, 29), (22, 29), (22, 29), (22, 29), (22, 29), (22, 29), (22, 29), (22, 29), (22, 29), (22, 29), (22, 29), (22, 29), (22, 29), (20, 40), (20, 40), (11, 5), (22, 240), (20, 12)]
def xFd : List (List Nat) := [[1006, 0, 2000, 0, 0, 1018, 0, 1019, 1020, 1021, 1022, 1023, 1024, 1025, 1070, 0], [], [0, 0, 0, 1008, 1009, 1010, 1011, 1012, 1013, 1014, 1015, 1016, 1017], [], [], [], [], [], [], [], [], [], [], [], [0, 2001, 0], [0, 2002, 0], [0, 2003, 0], [0, 2004, 0], [0, 2005, 0], [0, 2006, 0], [0, 0, 1026, 0, 1027, 1068, 1069], [], [], [], [], [], [], [], [], [], [], [], [], [], [], [], [], [], [], [], [], [], [], [], [], [], [], [], [], [], [], [], [], [], [], [], [], [], [], [], [], [], [], [], [], [0, 0, 0, 1071, 1072], [], []]
def xfc (a k : Nat) : Nat := (xFd.getD (a - 5) []).getD k 0
/-- what lies behind the fields of an object and is never read -/
def isJ (a k : Nat) : Bool := decide ((xTL.getD (a - 5) (0, 0)).1 < 20) && decide (1000 ≤ k)
def xfv (x : xS) (a k : Nat) : Value := if xfc a k = 0 then (if isJ a k = true then dflF (fkd (1000 * (xTL.getD (a - 5) (0, 0)).1 + k)) else .int (x.1 a k)) else if xfc a k < 2000 then .ref (xfc a k - 1000) else .ref (x.2 (xfc a k - 2000))
def xcell (x : xS) (a : Nat) : pcell := ((xTL.getD (a - 5) (0, 0)).1, (xTL.getD (a - 5) (0, 0)).2, fun i => if a = 27 then .ref (28 + i) else xfv x a i)
def isX (a : Nat) : Prop := 5 ≤ a ∧ a < 73 ∧ ¬ (7 ≤ a ∧ a < 18)
def putX (x : xS) (h : pheap) : pheap := (h.1, h.2.1, fun a => if 5 ≤ a ∧ a < 73 ∧ ¬ (7 ≤ a ∧ a < 18) then xcell x a else h.2.2 a)
def tI (x : xS) (a k : Nat) (v : Int32) : xS := (upN x.1 a (upN (x.1 a) k v), x.2)
def tR (x : xS) (k v : Nat) : xS := (x.1, upN x.2 k v)
theorem putX_1 (x : xS) (h : pheap) : (putX x h).1 = h.1 := rfl
theorem putX_u (x : xS) (h : pheap) : (putX x h).2.1 = h.2.1 := rfl
theorem putX_in (x : xS) (h : pheap) {a : Nat} (ha : isX a) : (putX x h).2.2 a = xcell x a := if_pos ha
theorem putX_out (x : xS) (h : pheap) {a : Nat} (ha : ¬ isX a) : (putX x h).2.2 a = h.2.2 a := if_neg ha
theorem putX_hi (x : xS) (h : pheap) {a : Nat} (ha : 73 ≤ a) : (putX x h).2.2 a = h.2.2 a := if_neg (by omega)
theorem hset_Xout (x : xS) (h : pheap) {a i : Nat} {v : Value} (ha : ¬ isX a) : hset (putX x h) a i v = putX x (hset h a i v) := by
  unfold isX at ha
  unfold hset putX
  refine Prod.ext rfl (Prod.ext rfl (funext fun b => ?_))
  dsimp only
  by_cases hb : b = a
  · subst hb
    simp only [if_true, if_neg ha]
  · rw [if_neg hb, if_neg hb]
theorem hset_Xhi (x : xS) (h : pheap) {a i : Nat} {v : Value} (ha : 73 ≤ a) : hset (putX x h) a i v = putX x (hset h a i v) := hset_Xout x h (by unfold isX; omega)
theorem hnew_X (x : xS) (h : pheap) {t n : Nat} {f : Nat → Value} (hh : 146 ≤ h.1) : hnew (putX x h) t n f = putX x (hnew h t n f) := by
  unfold hnew putX
  refine Prod.ext rfl (Prod.ext rfl (funext fun b => ?_))
  dsimp only
  by_cases hb : b = h.1
  · subst hb
    rw [if_pos rfl, if_neg (show ¬ (5 ≤ h.1 ∧ h.1 < 73 ∧ ¬ (7 ≤ h.1 ∧ h.1 < 18)) by omega), if_pos rfl]
  · rw [if_neg hb, if_neg hb]
theorem putX_in2 (x y : xS) (h : pheap) {a i : Nat} {v : Value} (ha : isX a) (ho : ∀ b, b ≠ a → isX b → xcell y b = xcell x b) (hc : xcell y a = ((xcell x a).1, (xcell x a).2.1, updV (xcell x a).2.2 i v)) : hset (putX x h) a i v = putX y h := by
  unfold isX at ha
  unfold hset putX
  refine Prod.ext rfl (Prod.ext rfl (funext fun b => ?_))
  dsimp only
  by_cases hb : b = a
  · subst hb
    rw [if_pos rfl, if_pos ha, if_pos ha, hc]
  · rw [if_neg hb]
    by_cases h3 : 5 ≤ b ∧ b < 73 ∧ ¬ (7 ≤ b ∧ b < 18)
    · rw [if_pos h3, if_pos h3, ho b hb h3]
    · rw [if_neg h3, if_neg h3]
theorem hset_XI (x : xS) (h : pheap) {a k : Nat} {v : Int32} (ha : isX a) (h27 : a ≠ 27) (hk : xfc a k = 0) (hJ : isJ a k = false) : hset (putX x h) a k (.int v) = putX (tI x a k v) h := by
  refine putX_in2 x (tI x a k v) h ha (fun b hb _ => ?_) ?_
  · unfold xcell xfv tI
    refine Prod.ext rfl (Prod.ext rfl (funext fun j => ?_))
    dsimp only
    rw [upN_n _ _ hb]
  · unfold xcell
    refine Prod.ext rfl (Prod.ext rfl (funext fun j => ?_))
    dsimp only
    unfold updV
    dsimp only
    rw [if_neg h27, if_neg h27]
    unfold xfv tI
    dsimp only
    rw [upN_s]
    by_cases hj : j = k
    · subst hj
      rw [if_pos rfl, if_pos hk, hJ, if_neg (by decide), upN_s]
    · rw [if_neg hj, upN_n _ _ hj]
def xdA (q : Nat) : Nat := [5, 19, 20, 21, 22, 23, 24].getD q 0
def xdK (q : Nat) : Nat := [2, 1, 1, 1, 1, 1, 1].getD q 0
theorem xfc_pos1 : ∀ b, b < 73 → 5 ≤ b → ∀ j, j < 20 → 2000 ≤ xfc b j → (b = xdA (xfc b j - 2000) ∧ j = xdK (xfc b j - 2000)) := by decide +kernel
theorem xFd_len : xFd.length = 68 ∧ ∀ l ∈ xFd, l.length ≤ 20 := by decide +kernel
theorem xfc_pos {b j q : Nat} (h5 : 5 ≤ b) (h : xfc b j = 2000 + q) : b = xdA q ∧ j = xdK q := by
  have hb : b < 73 := by
    rcases Nat.lt_or_ge b 73 with z | z
    · exact z
    · exfalso
      unfold xfc at h
      rw [List.getD_eq_getElem?_getD (l := xFd), List.getElem?_eq_none (by rw [xFd_len.1]; omega)] at h
      simp at h
      omega
  have hj : j < 20 := by
    rcases Nat.lt_or_ge j 20 with z | z
    · exact z
    · exfalso
      unfold xfc at h
      rw [List.getD_eq_getElem?_getD (l := xFd)] at h
      cases hx : xFd[b - 5]? with
      | none => rw [hx] at h; simp at h; omega
      | some l =>
        rw [hx] at h
        have := xFd_len.2 l (List.mem_of_getElem? hx)
        simp only [Option.getD_some] at h
        rw [List.getD_eq_getElem?_getD, List.getElem?_eq_none (by omega)] at h
        simp at h
        omega
  have := xfc_pos1 b hb h5 j hj (by omega)
  rw [h, Nat.add_sub_cancel_left] at this
  exact this
theorem hset_XR (x : xS) (h : pheap) {a k v q : Nat} (ha : isX a) (h27 : a ≠ 27) (hq : xfc a k = 2000 + q) (ho : ∀ b j, 5 ≤ b → (b ≠ a ∨ j ≠ k) → xfc b j ≠ 2000 + q) : hset (putX x h) a k (.ref v) = putX (tR x q v) h := by
  have key : ∀ b j, 5 ≤ b → (b ≠ a ∨ j ≠ k) → xfv (tR x q v) b j = xfv x b j := by
    intro b j h5 hbj
    unfold xfv tR
    dsimp only
    by_cases h1 : xfc b j = 0
    · rw [if_pos h1, if_pos h1]
    · rw [if_neg h1, if_neg h1]
      by_cases h2 : xfc b j < 2000
      · rw [if_pos h2, if_pos h2]
      · rw [if_neg h2, if_neg h2, upN_n]
        have := ho b j h5 hbj
        omega
  refine putX_in2 x (tR x q v) h ha (fun b hb hbx => ?_) ?_
  · unfold xcell
    refine Prod.ext rfl (Prod.ext rfl (funext fun j => ?_))
    dsimp only
    rw [key b j hbx.1 (Or.inl hb)]
  · unfold xcell
    refine Prod.ext rfl (Prod.ext rfl (funext fun j => ?_))
    dsimp only
    unfold updV
    dsimp only
    rw [if_neg h27, if_neg h27]
    by_cases hj : j = k
    · subst hj
      rw [if_pos rfl]
      unfold xfv tR
      rw [hq, if_neg (by omega), if_neg (by omega), Nat.add_sub_cancel_left]
      dsimp only
      rw [upN_s]
    · rw [if_neg hj, key a j ha.1 (Or.inr hj)]
theorem px_5 (x : xS) (h : pheap) : (putX x h).2.2 5 = (12, 16, xfv x 5) := rfl
theorem xf_5_0 (x : xS) : xfv x 5 0 = .ref 6 := rfl
theorem xf_5_1 (x : xS) : xfv x 5 1 = .int (x.1 5 1) := rfl
theorem xI_5_1 (x : xS) (h : pheap) {v : Int32} : hset (putX x h) 5 1 (.int v) = putX (tI x 5 1 v) h := hset_XI x h (by unfold isX; decide) (by decide) (by decide) rfl
theorem xf_5_2 (x : xS) : xfv x 5 2 = .ref (x.2 0) := rfl
theorem xR_0 (x : xS) (h : pheap) {v : Nat} : hset (putX x h) 5 2 (.ref v) = putX (tR x 0 v) h := hset_XR x h (by unfold isX; decide) (by decide) (by decide) (fun b j h5 hbj z => by have := xfc_pos h5 z; simp [xdA, xdK] at this; omega)
theorem xf_5_3 (x : xS) : xfv x 5 3 = .int (x.1 5 3) := rfl
theorem xI_5_3 (x : xS) (h : pheap) {v : Int32} : hset (putX x h) 5 3 (.int v) = putX (tI x 5 3 v) h := hset_XI x h (by unfold isX; decide) (by decide) (by decide) rfl
theorem xf_5_4 (x : xS) : xfv x 5 4 = .int (x.1 5 4) := rfl
theorem xI_5_4 (x : xS) (h : pheap) {v : Int32} : hset (putX x h) 5 4 (.int v) = putX (tI x 5 4 v) h := hset_XI x h (by unfold isX; decide) (by decide) (by decide) rfl
theorem xf_5_5 (x : xS) : xfv x 5 5 = .ref 18 := rfl
theorem xf_5_6 (x : xS) : xfv x 5 6 = .int (x.1 5 6) := rfl
theorem xI_5_6 (x : xS) (h : pheap) {v : Int32} : hset (putX x h) 5 6 (.int v) = putX (tI x 5 6 v) h := hset_XI x h (by unfold isX; decide) (by decide) (by decide) rfl
theorem xf_5_7 (x : xS) : xfv x 5 7 = .ref 19 := rfl
theorem xf_5_8 (x : xS) : xfv x 5 8 = .ref 20 := rfl
theorem xf_5_9 (x : xS) : xfv x 5 9 = .ref 21 := rfl
theorem xf_5_10 (x : xS) : xfv x 5 10 = .ref 22 := rfl
theorem xf_5_11 (x : xS) : xfv x 5 11 = .ref 23 := rfl
theorem xf_5_12 (x : xS) : xfv x 5 12 = .ref 24 := rfl
theorem xf_5_13 (x : xS) : xfv x 5 13 = .ref 25 := rfl
theorem xf_5_14 (x : xS) : xfv x 5 14 = .ref 70 := rfl
theorem xf_5_15 (x : xS) : xfv x 5 15 = .int (x.1 5 15) := rfl
theorem xI_5_15 (x : xS) (h : pheap) {v : Int32} : hset (putX x h) 5 15 (.int v) = putX (tI x 5 15 v) h := hset_XI x h (by unfold isX; decide) (by decide) (by decide) rfl
theorem px_6 (x : xS) (h : pheap) : (putX x h).2.2 6 = (22, 1500, fun i => .int (x.1 6 i)) := rfl
theorem xA_6 (x : xS) (h : pheap) {i : Nat} {v : Int32} : hset (putX x h) 6 i (.int v) = putX (tI x 6 i v) h := hset_XI x h (by unfold isX; decide) (by decide) rfl rfl
theorem px_18 (x : xS) (h : pheap) : (putX x h).2.2 18 = (22, 16, fun i => .int (x.1 18 i)) := rfl
theorem xA_18 (x : xS) (h : pheap) {i : Nat} {v : Int32} : hset (putX x h) 18 i (.int v) = putX (tI x 18 i v) h := hset_XI x h (by unfold isX; decide) (by decide) rfl rfl
theorem px_19 (x : xS) (h : pheap) : (putX x h).2.2 19 = (0, 3, xfv x 19) := rfl
theorem xf_19_0 (x : xS) : xfv x 19 0 = .int (x.1 19 0) := rfl
theorem xI_19_0 (x : xS) (h : pheap) {v : Int32} : hset (putX x h) 19 0 (.int v) = putX (tI x 19 0 v) h := hset_XI x h (by unfold isX; decide) (by decide) (by decide) rfl
theorem xf_19_1 (x : xS) : xfv x 19 1 = .ref (x.2 1) := rfl
theorem xR_1 (x : xS) (h : pheap) {v : Nat} : hset (putX x h) 19 1 (.ref v) = putX (tR x 1 v) h := hset_XR x h (by unfold isX; decide) (by decide) (by decide) (fun b j h5 hbj z => by have := xfc_pos h5 z; simp [xdA, xdK] at this; omega)
theorem xf_19_2 (x : xS) : xfv x 19 2 = .int (x.1 19 2) := rfl
theorem xI_19_2 (x : xS) (h : pheap) {v : Int32} : hset (putX x h) 19 2 (.int v) = putX (tI x 19 2 v) h := hset_XI x h (by unfold isX; decide) (by decide) (by decide) rfl
theorem px_20 (x : xS) (h : pheap) : (putX x h).2.2 20 = (0, 3, xfv x 20) := rfl
theorem xf_20_0 (x : xS) : xfv x 20 0 = .int (x.1 20 0) := rfl
theorem xI_20_0 (x : xS) (h : pheap) {v : Int32} : hset (putX x h) 20 0 (.int v) = putX (tI x 20 0 v) h := hset_XI x h (by unfold isX; decide) (by decide) (by decide) rfl
theorem xf_20_1 (x : xS) : xfv x 20 1 = .ref (x.2 2) := rfl
theorem xR_2 (x : xS) (h : pheap) {v : Nat} : hset (putX x h) 20 1 (.ref v) = putX (tR x 2 v) h := hset_XR x h (by unfold isX; decide) (by decide) (by decide) (fun b j h5 hbj z => by have := xfc_pos h5 z; simp [xdA, xdK] at this; omega)
theorem xf_20_2 (x : xS) : xfv x 20 2 = .int (x.1 20 2) := rfl
theorem xI_20_2 (x : xS) (h : pheap) {v : Int32} : hset (putX x h) 20 2 (.int v) = putX (tI x 20 2 v) h := hset_XI x h (by unfold isX; decide) (by decide) (by decide) rfl
theorem px_21 (x : xS) (h : pheap) : (putX x h).2.2 21 = (0, 3, xfv x 21) := rfl
theorem xf_21_0 (x : xS) : xfv x 21 0 = .int (x.1 21 0) := rfl
theorem xI_21_0 (x : xS) (h : pheap) {v : Int32} : hset (putX x h) 21 0 (.int v) = putX (tI x 21 0 v) h := hset_XI x h (by unfold isX; decide) (by decide) (by decide) rfl
theorem xf_21_1 (x : xS) : xfv x 21 1 = .ref (x.2 3) := rfl
theorem xR_3 (x : xS) (h : pheap) {v : Nat} : hset (putX x h) 21 1 (.ref v) = putX (tR x 3 v) h := hset_XR x h (by unfold isX; decide) (by decide) (by decide) (fun b j h5 hbj z => by have := xfc_pos h5 z; simp [xdA, xdK] at this; omega)
theorem xf_21_2 (x : xS) : xfv x 21 2 = .int (x.1 21 2) := rfl
theorem xI_21_2 (x : xS) (h : pheap) {v : Int32} : hset (putX x h) 21 2 (.int v) = putX (tI x 21 2 v) h := hset_XI x h (by unfold isX; decide) (by decide) (by decide) rfl
theorem px_22 (x : xS) (h : pheap) : (putX x h).2.2 22 = (0, 3, xfv x 22) := rfl
theorem xf_22_0 (x : xS) : xfv x 22 0 = .int (x.1 22 0) := rfl
theorem xI_22_0 (x : xS) (h : pheap) {v : Int32} : hset (putX x h) 22 0 (.int v) = putX (tI x 22 0 v) h := hset_XI x h (by unfold isX; decide) (by decide) (by decide) rfl
theorem xf_22_1 (x : xS) : xfv x 22 1 = .ref (x.2 4) := rfl
theorem xR_4 (x : xS) (h : pheap) {v : Nat} : hset (putX x h) 22 1 (.ref v) = putX (tR x 4 v) h := hset_XR x h (by unfold isX; decide) (by decide) (by decide) (fun b j h5 hbj z => by have := xfc_pos h5 z; simp [xdA, xdK] at this; omega)
theorem xf_22_2 (x : xS) : xfv x 22 2 = .int (x.1 22 2) := rfl
theorem xI_22_2 (x : xS) (h : pheap) {v : Int32} : hset (putX x h) 22 2 (.int v) = putX (tI x 22 2 v) h := hset_XI x h (by unfold isX; decide) (by decide) (by decide) rfl
theorem px_23 (x : xS) (h : pheap) : (putX x h).2.2 23 = (0, 3, xfv x 23) := rfl
theorem xf_23_0 (x : xS) : xfv x 23 0 = .int (x.1 23 0) := rfl
theorem xI_23_0 (x : xS) (h : pheap) {v : Int32} : hset (putX x h) 23 0 (.int v) = putX (tI x 23 0 v) h := hset_XI x h (by unfold isX; decide) (by decide) (by decide) rfl
theorem xf_23_1 (x : xS) : xfv x 23 1 = .ref (x.2 5) := rfl
theorem xR_5 (x : xS) (h : pheap) {v : Nat} : hset (putX x h) 23 1 (.ref v) = putX (tR x 5 v) h := hset_XR x h (by unfold isX; decide) (by decide) (by decide) (fun b j h5 hbj z => by have := xfc_pos h5 z; simp [xdA, xdK] at this; omega)
theorem xf_23_2 (x : xS) : xfv x 23 2 = .int (x.1 23 2) := rfl
theorem xI_23_2 (x : xS) (h : pheap) {v : Int32} : hset (putX x h) 23 2 (.int v) = putX (tI x 23 2 v) h := hset_XI x h (by unfold isX; decide) (by decide) (by decide) rfl
theorem px_24 (x : xS) (h : pheap) : (putX x h).2.2 24 = (0, 3, xfv x 24) := rfl
theorem xf_24_0 (x : xS) : xfv x 24 0 = .int (x.1 24 0) := rfl
theorem xI_24_0 (x : xS) (h : pheap) {v : Int32} : hset (putX x h) 24 0 (.int v) = putX (tI x 24 0 v) h := hset_XI x h (by unfold isX; decide) (by decide) (by decide) rfl
theorem xf_24_1 (x : xS) : xfv x 24 1 = .ref (x.2 6) := rfl
theorem xR_6 (x : xS) (h : pheap) {v : Nat} : hset (putX x h) 24 1 (.ref v) = putX (tR x 6 v) h := hset_XR x h (by unfold isX; decide) (by decide) (by decide) (fun b j h5 hbj z => by have := xfc_pos h5 z; simp [xdA, xdK] at this; omega)
theorem xf_24_2 (x : xS) : xfv x 24 2 = .int (x.1 24 2) := rfl
theorem xI_24_2 (x : xS) (h : pheap) {v : Int32} : hset (putX x h) 24 2 (.int v) = putX (tI x 24 2 v) h := hset_XI x h (by unfold isX; decide) (by decide) (by decide) rfl
theorem px_25 (x : xS) (h : pheap) : (putX x h).2.2 25 = (10, 7, xfv x 25) := rfl
theorem xf_25_0 (x : xS) : xfv x 25 0 = .int (x.1 25 0) := rfl
theorem xI_25_0 (x : xS) (h : pheap) {v : Int32} : hset (putX x h) 25 0 (.int v) = putX (tI x 25 0 v) h := hset_XI x h (by unfold isX; decide) (by decide) (by decide) rfl
theorem xf_25_1 (x : xS) : xfv x 25 1 = .int (x.1 25 1) := rfl
theorem xI_25_1 (x : xS) (h : pheap) {v : Int32} : hset (putX x h) 25 1 (.int v) = putX (tI x 25 1 v) h := hset_XI x h (by unfold isX; decide) (by decide) (by decide) rfl
theorem xf_25_2 (x : xS) : xfv x 25 2 = .ref 26 := rfl
theorem xf_25_3 (x : xS) : xfv x 25 3 = .int (x.1 25 3) := rfl
theorem xI_25_3 (x : xS) (h : pheap) {v : Int32} : hset (putX x h) 25 3 (.int v) = putX (tI x 25 3 v) h := hset_XI x h (by unfold isX; decide) (by decide) (by decide) rfl
theorem xf_25_4 (x : xS) : xfv x 25 4 = .ref 27 := rfl
theorem xf_25_5 (x : xS) : xfv x 25 5 = .ref 68 := rfl
theorem xf_25_6 (x : xS) : xfv x 25 6 = .ref 69 := rfl
theorem px_26 (x : xS) (h : pheap) : (putX x h).2.2 26 = (22, 29, fun i => .int (x.1 26 i)) := rfl
theorem xA_26 (x : xS) (h : pheap) {i : Nat} {v : Int32} : hset (putX x h) 26 i (.int v) = putX (tI x 26 i v) h := hset_XI x h (by unfold isX; decide) (by decide) rfl rfl
theorem px_27 (x : xS) (h : pheap) : (putX x h).2.2 27 = (27, 40, fun i => .ref (28 + i)) := rfl
theorem px_28 (x : xS) (h : pheap) : (putX x h).2.2 28 = (22, 29, fun i => .int (x.1 28 i)) := rfl
theorem xA_28 (x : xS) (h : pheap) {i : Nat} {v : Int32} : hset (putX x h) 28 i (.int v) = putX (tI x 28 i v) h := hset_XI x h (by unfold isX; decide) (by decide) rfl rfl
theorem px_29 (x : xS) (h : pheap) : (putX x h).2.2 29 = (22, 29, fun i => .int (x.1 29 i)) := rfl
theorem xA_29 (x : xS) (h : pheap) {i : Nat} {v : Int32} : hset (putX x h) 29 i (.int v) = putX (tI x 29 i v) h := hset_XI x h (by unfold isX; decide) (by decide) rfl rfl
theorem px_30 (x : xS) (h : pheap) : (putX x h).2.2 30 = (22, 29, fun i => .int (x.1 30 i)) := rfl
theorem xA_30 (x : xS) (h : pheap) {i : Nat} {v : Int32} : hset (putX x h) 30 i (.int v) = putX (tI x 30 i v) h := hset_XI x h (by unfold isX; decide) (by decide) rfl rfl
theorem px_31 (x : xS) (h : pheap) : (putX x h).2.2 31 = (22, 29, fun i => .int (x.1 31 i)) := rfl
theorem xA_31 (x : xS) (h : pheap) {i : Nat} {v : Int32} : hset (putX x h) 31 i (.int v) = putX (tI x 31 i v) h := hset_XI x h (by unfold isX; decide) (by decide) rfl rfl
theorem px_32 (x : xS) (h : pheap) : (putX x h).2.2 32 = (22, 29, fun i => .int (x.1 32 i)) := rfl
theorem xA_32 (x : xS) (h : pheap) {i : Nat} {v : Int32} : hset (putX x h) 32 i (.int v) = putX (tI x 32 i v) h := hset_XI x h (by unfold isX; decide) (by decide) rfl rfl
theorem px_33 (x : xS) (h : pheap) : (putX x h).2.2 33 = (22, 29, fun i => .int (x.1 33 i)) := rfl
theorem xA_33 (x : xS) (h : pheap) {i : Nat} {v : Int32} : hset (putX x h) 33 i (.int v) = putX (tI x 33 i v) h := hset_XI x h (by unfold isX; decide) (by decide) rfl rfl
theorem px_34 (x : xS) (h : pheap) : (putX x h).2.2 34 = (22, 29, fun i => .int (x.1 34 i)) := rfl
theorem xA_34 (x : xS) (h : pheap) {i : Nat} {v : Int32} : hset (putX x h) 34 i (.int v) = putX (tI x 34 i v) h := hset_XI x h (by unfold isX; decide) (by decide) rfl rfl
theorem px_35 (x : xS) (h : pheap) : (putX x h).2.2 35 = (22, 29, fun i => .int (x.1 35 i)) := rfl
theorem xA_35 (x : xS) (h : pheap) {i : Nat} {v : Int32} : hset (putX x h) 35 i (.int v) = putX (tI x 35 i v) h := hset_XI x h (by unfold isX; decide) (by decide) rfl rfl
theorem px_36 (x : xS) (h : pheap) : (putX x h).2.2 36 = (22, 29, fun i => .int (x.1 36 i)) := rfl
theorem xA_36 (x : xS) (h : pheap) {i : Nat} {v : Int32} : hset (putX x h) 36 i (.int v) = putX (tI x 36 i v) h := hset_XI x h (by unfold isX; decide) (by decide) rfl rfl
theorem px_37 (x : xS) (h : pheap) : (putX x h).2.2 37 = (22, 29, fun i => .int (x.1 37 i)) := rfl
theorem xA_37 (x : xS) (h : pheap) {i : Nat} {v : Int32} : hset (putX x h) 37 i (.int v) = putX (tI x 37 i v) h := hset_XI x h (by unfold isX; decide) (by decide) rfl rfl
theorem px_38 (x : xS) (h : pheap) : (putX x h).2.2 38 = (22, 29, fun i => .int (x.1 38 i)) := rfl
theorem xA_38 (x : xS) (h : pheap) {i : Nat} {v : Int32} : hset (putX x h) 38 i (.int v) = putX (tI x 38 i v) h := hset_XI x h (by unfold isX; decide) (by decide) rfl rfl
theorem px_39 (x : xS) (h : pheap) : (putX x h).2.2 39 = (22, 29, fun i => .int (x.1 39 i)) := rfl
theorem xA_39 (x : xS) (h : pheap) {i : Nat} {v : Int32} : hset (putX x h) 39 i (.int v) = putX (tI x 39 i v) h := hset_XI x h (by unfold isX; decide) (by decide) rfl rfl
theorem px_40 (x : xS) (h : pheap) : (putX x h).2.2 40 = (22, 29, fun i => .int (x.1 40 i)) := rfl
theorem xA_40 (x : xS) (h : pheap) {i : Nat} {v : Int32} : hset (putX x h) 40 i (.int v) = putX (tI x 40 i v) h := hset_XI x h (by unfold isX; decide) (by decide) rfl rfl
theorem px_41 (x : xS) (h : pheap) : (putX x h).2.2 41 = (22, 29, fun i => .int (x.1 41 i)) := rfl
theorem xA_41 (x : xS) (h : pheap) {i : Nat} {v : Int32} : hset (putX x h) 41 i (.int v) = putX (tI x 41 i v) h := hset_XI x h (by unfold isX; decide) (by decide) rfl rfl
theorem px_42 (x : xS) (h : pheap) : (putX x h).2.2 42 = (22, 29, fun i => .int (x.1 42 i)) := rfl
theorem xA_42 (x : xS) (h : pheap) {i : Nat} {v : Int32} : hset (putX x h) 42 i (.int v) = putX (tI x 42 i v) h := hset_XI x h (by unfold isX; decide) (by decide) rfl rfl
theorem px_43 (x : xS) (h : pheap) : (putX x h).2.2 43 = (22, 29, fun i => .int (x.1 43 i)) := rfl
theorem xA_43 (x : xS) (h : pheap) {i : Nat} {v : Int32} : hset (putX x h) 43 i (.int v) = putX (tI x 43 i v) h := hset_XI x h (by unfold isX; decide) (by decide) rfl rfl
theorem px_44 (x : xS) (h : pheap) : (putX x h).2.2 44 = (22, 29, fun i => .int (x.1 44 i)) := rfl
theorem xA_44 (x : xS) (h : pheap) {i : Nat} {v : Int32} : hset (putX x h) 44 i (.int v) = putX (tI x 44 i v) h := hset_XI x h (by unfold isX; decide) (by decide) rfl rfl
theorem px_45 (x : xS) (h : pheap) : (putX x h).2.2 45 = (22, 29, fun i => .int (x.1 45 i)) := rfl
theorem xA_45 (x : xS) (h : pheap) {i : Nat} {v : Int32} : hset (putX x h) 45 i (.int v) = putX (tI x 45 i v) h := hset_XI x h (by unfold isX; decide) (by decide) rfl rfl
theorem px_46 (x : xS) (h : pheap) : (putX x h).2.2 46 = (22, 29, fun i => .int (x.1 46 i)) := rfl
theorem xA_46 (x : xS) (h : pheap) {i : Nat} {v : Int32} : hset (putX x h) 46 i (.int v) = putX (tI x 46 i v) h := hset_XI x h (by unfold isX; decide) (by decide) rfl rfl
theorem px_47 (x : xS) (h : pheap) : (putX x h).2.2 47 = (22, 29, fun i => .int (x.1 47 i)) := rfl
theorem xA_47 (x : xS) (h : pheap) {i : Nat} {v : Int32} : hset (putX x h) 47 i (.int v) = putX (tI x 47 i v) h := hset_XI x h (by unfold isX; decide) (by decide) rfl rfl
theorem px_48 (x : xS) (h : pheap) : (putX x h).2.2 48 = (22, 29, fun i => .int (x.1 48 i)) := rfl
theorem xA_48 (x : xS) (h : pheap) {i : Nat} {v : Int32} : hset (putX x h) 48 i (.int v) = putX (tI x 48 i v) h := hset_XI x h (by unfold isX; decide) (by decide) rfl rfl
theorem px_49 (x : xS) (h : pheap) : (putX x h).2.2 49 = (22, 29, fun i => .int (x.1 49 i)) := rfl
theorem xA_49 (x : xS) (h : pheap) {i : Nat} {v : Int32} : hset (putX x h) 49 i (.int v) = putX (tI x 49 i v) h := hset_XI x h (by unfold isX; decide) (by decide) rfl rfl
theorem px_50 (x : xS) (h : pheap) : (putX x h).2.2 50 = (22, 29, fun i => .int (x.1 50 i)) := rfl
theorem xA_50 (x : xS) (h : pheap) {i : Nat} {v : Int32} : hset (putX x h) 50 i (.int v) = putX (tI x 50 i v) h := hset_XI x h (by unfold isX; decide) (by decide) rfl rfl
theorem px_51 (x : xS) (h : pheap) : (putX x h).2.2 51 = (22, 29, fun i => .int (x.1 51 i)) := rfl
theorem xA_51 (x : xS) (h : pheap) {i : Nat} {v : Int32} : hset (putX x h) 51 i (.int v) = putX (tI x 51 i v) h := hset_XI x h (by unfold isX; decide) (by decide) rfl rfl
theorem px_52 (x : xS) (h : pheap) : (putX x h).2.2 52 = (22, 29, fun i => .int (x.1 52 i)) := rfl
theorem xA_52 (x : xS) (h : pheap) {i : Nat} {v : Int32} : hset (putX x h) 52 i (.int v) = putX (tI x 52 i v) h := hset_XI x h (by unfold isX; decide) (by decide) rfl rfl
theorem px_53 (x : xS) (h : pheap) : (putX x h).2.2 53 = (22, 29, fun i => .int (x.1 53 i)) := rfl
theorem xA_53 (x : xS) (h : pheap) {i : Nat} {v : Int32} : hset (putX x h) 53 i (.int v) = putX (tI x 53 i v) h := hset_XI x h (by unfold isX; decide) (by decide) rfl rfl
theorem px_54 (x : xS) (h : pheap) : (putX x h).2.2 54 = (22, 29, fun i => .int (x.1 54 i)) := rfl
theorem xA_54 (x : xS) (h : pheap) {i : Nat} {v : Int32} : hset (putX x h) 54 i (.int v) = putX (tI x 54 i v) h := hset_XI x h (by unfold isX; decide) (by decide) rfl rfl
theorem px_55 (x : xS) (h : pheap) : (putX x h).2.2 55 = (22, 29, fun i => .int (x.1 55 i)) := rfl
theorem xA_55 (x : xS) (h : pheap) {i : Nat} {v : Int32} : hset (putX x h) 55 i (.int v) = putX (tI x 55 i v) h := hset_XI x h (by unfold isX; decide) (by decide) rfl rfl
theorem px_56 (x : xS) (h : pheap) : (putX x h).2.2 56 = (22, 29, fun i => .int (x.1 56 i)) := rfl
theorem xA_56 (x : xS) (h : pheap) {i : Nat} {v : Int32} : hset (putX x h) 56 i (.int v) = putX (tI x 56 i v) h := hset_XI x h (by unfold isX; decide) (by decide) rfl rfl
theorem px_57 (x : xS) (h : pheap) : (putX x h).2.2 57 = (22, 29, fun i => .int (x.1 57 i)) := rfl
theorem xA_57 (x : xS) (h : pheap) {i : Nat} {v : Int32} : hset (putX x h) 57 i (.int v) = putX (tI x 57 i v) h := hset_XI x h (by unfold isX; decide) (by decide) rfl rfl
theorem px_58 (x : xS) (h : pheap) : (putX x h).2.2 58 = (22, 29, fun i => .int (x.1 58 i)) := rfl
theorem xA_58 (x : xS) (h : pheap) {i : Nat} {v : Int32} : hset (putX x h) 58 i (.int v) = putX (tI x 58 i v) h := hset_XI x h (by unfold isX; decide) (by decide) rfl rfl
theorem px_59 (x : xS) (h : pheap) : (putX x h).2.2 59 = (22, 29, fun i => .int (x.1 59 i)) := rfl
theorem xA_59 (x : xS) (h : pheap) {i : Nat} {v : Int32} : hset (putX x h) 59 i (.int v) = putX (tI x 59 i v) h := hset_XI x h (by unfold isX; decide) (by decide) rfl rfl
theorem px_60 (x : xS) (h : pheap) : (putX x h).2.2 60 = (22, 29, fun i => .int (x.1 60 i)) := rfl
theorem xA_60 (x : xS) (h : pheap) {i : Nat} {v : Int32} : hset (putX x h) 60 i (.int v) = putX (tI x 60 i v) h := hset_XI x h (by unfold isX; decide) (by decide) rfl rfl
theorem px_61 (x : xS) (h : pheap) : (putX x h).2.2 61 = (22, 29, fun i => .int (x.1 61 i)) := rfl
theorem xA_61 (x : xS) (h : pheap) {i : Nat} {v : Int32} : hset (putX x h) 61 i (.int v) = putX (tI x 61 i v) h := hset_XI x h (by unfold isX; decide) (by decide) rfl rfl
theorem px_62 (x : xS) (h : pheap) : (putX x h).2.2 62 = (22, 29, fun i => .int (x.1 62 i)) := rfl
theorem xA_62 (x : xS) (h : pheap) {i : Nat} {v : Int32} : hset (putX x h) 62 i (.int v) = putX (tI x 62 i v) h := hset_XI x h (by unfold isX; decide) (by decide) rfl rfl
theorem px_63 (x : xS) (h : pheap) : (putX x h).2.2 63 = (22, 29, fun i => .int (x.1 63 i)) := rfl
theorem xA_63 (x : xS) (h : pheap) {i : Nat} {v : Int32} : hset (putX x h) 63 i (.int v) = putX (tI x 63 i v) h := hset_XI x h (by unfold isX; decide) (by decide) rfl rfl
theorem px_64 (x : xS) (h : pheap) : (putX x h).2.2 64 = (22, 29, fun i => .int (x.1 64 i)) := rfl
theorem xA_64 (x : xS) (h : pheap) {i : Nat} {v : Int32} : hset (putX x h) 64 i (.int v) = putX (tI x 64 i v) h := hset_XI x h (by unfold isX; decide) (by decide) rfl rfl
theorem px_65 (x : xS) (h : pheap) : (putX x h).2.2 65 = (22, 29, fun i => .int (x.1 65 i)) := rfl
theorem xA_65 (x : xS) (h : pheap) {i : Nat} {v : Int32} : hset (putX x h) 65 i (.int v) = putX (tI x 65 i v) h := hset_XI x h (by unfold isX; decide) (by decide) rfl rfl
theorem px_66 (x : xS) (h : pheap) : (putX x h).2.2 66 = (22, 29, fun i => .int (x.1 66 i)) := rfl
theorem xA_66 (x : xS) (h : pheap) {i : Nat} {v : Int32} : hset (putX x h) 66 i (.int v) = putX (tI x 66 i v) h := hset_XI x h (by unfold isX; decide) (by decide) rfl rfl
theorem px_67 (x : xS) (h : pheap) : (putX x h).2.2 67 = (22, 29, fun i => .int (x.1 67 i)) := rfl
theorem xA_67 (x : xS) (h : pheap) {i : Nat} {v : Int32} : hset (putX x h) 67 i (.int v) = putX (tI x 67 i v) h := hset_XI x h (by unfold isX; decide) (by decide) rfl rfl
theorem px_68 (x : xS) (h : pheap) : (putX x h).2.2 68 = (20, 40, fun i => .int (x.1 68 i)) := rfl
theorem xA_68 (x : xS) (h : pheap) {i : Nat} {v : Int32} : hset (putX x h) 68 i (.int v) = putX (tI x 68 i v) h := hset_XI x h (by unfold isX; decide) (by decide) rfl rfl
theorem px_69 (x : xS) (h : pheap) : (putX x h).2.2 69 = (20, 40, fun i => .int (x.1 69 i)) := rfl
theorem xA_69 (x : xS) (h : pheap) {i : Nat} {v : Int32} : hset (putX x h) 69 i (.int v) = putX (tI x 69 i v) h := hset_XI x h (by unfold isX; decide) (by decide) rfl rfl
theorem px_70 (x : xS) (h : pheap) : (putX x h).2.2 70 = (11, 5, xfv x 70) := rfl
theorem xf_70_0 (x : xS) : xfv x 70 0 = .int (x.1 70 0) := rfl
theorem xI_70_0 (x : xS) (h : pheap) {v : Int32} : hset (putX x h) 70 0 (.int v) = putX (tI x 70 0 v) h := hset_XI x h (by unfold isX; decide) (by decide) (by decide) rfl
theorem xf_70_1 (x : xS) : xfv x 70 1 = .int (x.1 70 1) := rfl
theorem xI_70_1 (x : xS) (h : pheap) {v : Int32} : hset (putX x h) 70 1 (.int v) = putX (tI x 70 1 v) h := hset_XI x h (by unfold isX; decide) (by decide) (by decide) rfl
theorem xf_70_2 (x : xS) : xfv x 70 2 = .int (x.1 70 2) := rfl
theorem xI_70_2 (x : xS) (h : pheap) {v : Int32} : hset (putX x h) 70 2 (.int v) = putX (tI x 70 2 v) h := hset_XI x h (by unfold isX; decide) (by decide) (by decide) rfl
theorem xf_70_3 (x : xS) : xfv x 70 3 = .ref 71 := rfl
theorem xf_70_4 (x : xS) : xfv x 70 4 = .ref 72 := rfl
theorem px_71 (x : xS) (h : pheap) : (putX x h).2.2 71 = (22, 240, fun i => .int (x.1 71 i)) := rfl
theorem xA_71 (x : xS) (h : pheap) {i : Nat} {v : Int32} : hset (putX x h) 71 i (.int v) = putX (tI x 71 i v) h := hset_XI x h (by unfold isX; decide) (by decide) rfl rfl
theorem px_72 (x : xS) (h : pheap) : (putX x h).2.2 72 = (20, 12, fun i => .int (x.1 72 i)) := rfl
theorem xA_72 (x : xS) (h : pheap) {i : Nat} {v : Int32} : hset (putX x h) 72 i (.int v) = putX (tI x 72 i v) h := hset_XI x h (by unfold isX; decide) (by decide) rfl rfl
