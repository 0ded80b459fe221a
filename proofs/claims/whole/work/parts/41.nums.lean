/-! natural numbers as ints -/
theorem ni_add (a b : Nat) : nI a + nI b = nI (a + b) := (Int32.ofNat_add a b).symm
theorem ni_mul (a b : Nat) : nI a * nI b = nI (a * b) := (Int32.ofNat_mul a b).symm
theorem ni_sub {a b : Nat} (h : b ≤ a) : nI a - nI b = nI (a - b) := (Int32.ofNat_sub a b h).symm
theorem ni_int {a : Nat} (h : a < 2147483648) : (nI a).toInt = a := Int32.toInt_ofNat_of_lt h
theorem ni_lt {a b : Nat} (ha : a < 2147483648) (hb : b < 2147483648) : (nI a < nI b) = (a < b) := propext (Int32.ofNat_lt_iff_lt ha hb)
theorem ni_le {a b : Nat} (ha : a < 2147483648) (hb : b < 2147483648) : (nI a ≤ nI b) = (a ≤ b) := propext (Int32.ofNat_le_iff_le ha hb)
theorem ni_eq {a b : Nat} (ha : a < 2147483648) (hb : b < 2147483648) : (nI a = nI b) = (a = b) := propext ⟨fun z => by
  have := congrArg Int32.toInt z
  rw [ni_int ha, ni_int hb] at this
  omega, fun z => by rw [z]⟩
theorem ni_clamp {a : Nat} (ha : a < 2147483648) : (nI a).toNatClampNeg = a := Int32.toNatClampNeg_ofNat_of_lt ha
theorem ni_lt0 {a : Nat} (ha : a < 2147483648) : (nI a < 0) = False := eq_false (by
  intro z
  rw [Int32.lt_iff_toInt_lt, ni_int ha] at z
  have : (0 : Int32).toInt = 0 := by decide
  omega)
theorem ni_0le {a : Nat} (ha : a < 2147483648) : (0 ≤ nI a) = True := eq_true (by
  rw [Int32.le_iff_toInt_le, ni_int ha]
  have : (0 : Int32).toInt = 0 := by decide
  omega)
theorem ni_ix {a n : Nat} (ha : a < 2147483648) : (isIx (nI a) n = true) = (a < n) := by
  unfold isIx
  rw [decide_eq_true_eq, ni_lt0 ha, ni_clamp ha]
  refine propext ⟨fun z => ?_, fun z => ?_⟩
  · rcases Nat.lt_or_ge a n with q | q
    · exact q
    · exact absurd (Or.inr q) z
  · rintro (q | q)
    · exact q
    · omega
theorem ni_c2 {a : Nat} (ha : a < 2147483648) : (nI a).toInt64 = Int64.ofNat a := Int32.toInt64_ofNat' (by
  have : Int32.maxValue.toInt = 2147483647 := by decide
  omega)
/-- a number that a call brings is an index, or it isn't -/
theorem in_or (n : Int32) (c : Nat) (hc : c < 2147483648) : (∃ m, n = nI m ∧ m < c) ∨ (n < 0 ∨ nI c ≤ n) := by
  by_cases h1 : n < 0
  · exact Or.inr (Or.inl h1)
  · by_cases h2 : nI c ≤ n
    · exact Or.inr (Or.inr h2)
    · left
      have h0 : (0 : Int32) ≤ n := by
        rw [Int32.lt_iff_toInt_lt] at h1
        rw [Int32.le_iff_toInt_le]
        omega
      refine ⟨n.toNatClampNeg, (Int32.ofNat_toNatClampNeg n h0).symm, ?_⟩
      rw [Int32.le_iff_toInt_le, ni_int hc] at h2
      have h3 : (0 : Int32).toInt = 0 := by decide
      rw [Int32.le_iff_toInt_le, h3] at h0
      have h4 : n.toNatClampNeg = n.toInt.toNat := rfl
      omega
/-- the first c numbers, c too -/
theorem lo_or (n : Int32) (c : Nat) (hc : c + 1 < 2147483648) (hn : ¬ n < 0) (hm : n ≤ nI c) : ∃ m, n = nI m ∧ m ≤ c := by
  rcases in_or n (c + 1) hc with ⟨m, h1, h2⟩ | h1 | h1
  · exact ⟨m, h1, by omega⟩
  · exact absurd h1 hn
  · exfalso
    rw [Int32.le_iff_toInt_le] at h1 hm
    rw [ni_int hc] at h1
    rw [ni_int (by omega)] at hm
    omega
/-! with a number that stands in the text -/
theorem ni_ltL {k c : Nat} (hk : k < 2147483648) (hc : OfNat.ofNat c < 2147483648) : (nI k < no_index (OfNat.ofNat c : Int32)) = (k < OfNat.ofNat c) := ni_lt hk hc
theorem ni_Llt {k c : Nat} (hk : k < 2147483648) (hc : OfNat.ofNat c < 2147483648) : (no_index (OfNat.ofNat c : Int32) < nI k) = (OfNat.ofNat c < k) := ni_lt hc hk
theorem ni_leL {k c : Nat} (hk : k < 2147483648) (hc : OfNat.ofNat c < 2147483648) : (nI k ≤ no_index (OfNat.ofNat c : Int32)) = (k ≤ OfNat.ofNat c) := ni_le hk hc
theorem ni_Lle {k c : Nat} (hk : k < 2147483648) (hc : OfNat.ofNat c < 2147483648) : (no_index (OfNat.ofNat c : Int32) ≤ nI k) = (OfNat.ofNat c ≤ k) := ni_le hc hk
theorem ni_eqL {k c : Nat} (hk : k < 2147483648) (hc : OfNat.ofNat c < 2147483648) : (nI k = no_index (OfNat.ofNat c : Int32)) = (k = OfNat.ofNat c) := ni_eq hk hc
theorem ni_addL {k c : Nat} : nI k + no_index (OfNat.ofNat c : Int32) = nI (k + OfNat.ofNat c) := ni_add k c
theorem ni_Ladd {k c : Nat} : no_index (OfNat.ofNat c : Int32) + nI k = nI (OfNat.ofNat c + k) := ni_add c k
theorem ni_mulL {k c : Nat} : nI k * no_index (OfNat.ofNat c : Int32) = nI (k * OfNat.ofNat c) := ni_mul k c
theorem ni_Lmul {k c : Nat} : no_index (OfNat.ofNat c : Int32) * nI k = nI (OfNat.ofNat c * k) := ni_mul c k
theorem ni_subL {k c : Nat} (h : OfNat.ofNat c ≤ k) : nI k - no_index (OfNat.ofNat c : Int32) = nI (k - OfNat.ofNat c) := ni_sub h
theorem ni_Lsub {k c : Nat} (h : k ≤ OfNat.ofNat c) : no_index (OfNat.ofNat c : Int32) - nI k = nI (OfNat.ofNat c - k) := ni_sub h
theorem ni_ixL {c n : Nat} (hc : OfNat.ofNat c < 2147483648) : (isIx (no_index (OfNat.ofNat c : Int32)) n = true) = (OfNat.ofNat c < n) := ni_ix hc
theorem ni_clL {c : Nat} (hc : OfNat.ofNat c < 2147483648) : (no_index (OfNat.ofNat c : Int32)).toNatClampNeg = OfNat.ofNat c := ni_clamp hc
theorem il_l0 (x : Int32) : (x.toInt64 < 0) = (x < 0) := il_lt x 0
theorem il_g0 (x : Int32) : (0 < x.toInt64) = (0 < x) := il_lt 0 x
theorem il_l1 (x : Int32) : (x.toInt64 < 1) = (x < 1) := il_lt x 1
theorem il_g1 (x : Int32) : (1 < x.toInt64) = (1 < x) := il_lt 1 x
theorem il_l2 (x : Int32) : (x.toInt64 < 2) = (x < 2) := il_lt x 2
theorem il_g2 (x : Int32) : (2 < x.toInt64) = (2 < x) := il_lt 2 x
theorem il_l3 (x : Int32) : (x.toInt64 < 3) = (x < 3) := il_lt x 3
theorem il_g3 (x : Int32) : (3 < x.toInt64) = (3 < x) := il_lt 3 x
theorem il_l4 (x : Int32) : (x.toInt64 < 4) = (x < 4) := il_lt x 4
theorem il_g4 (x : Int32) : (4 < x.toInt64) = (4 < x) := il_lt 4 x
theorem il_l5 (x : Int32) : (x.toInt64 < 5) = (x < 5) := il_lt x 5
theorem il_g5 (x : Int32) : (5 < x.toInt64) = (5 < x) := il_lt 5 x
theorem il_l7 (x : Int32) : (x.toInt64 < 7) = (x < 7) := il_lt x 7
theorem il_g7 (x : Int32) : (7 < x.toInt64) = (7 < x) := il_lt 7 x
theorem il_l8 (x : Int32) : (x.toInt64 < 8) = (x < 8) := il_lt x 8
theorem il_g8 (x : Int32) : (8 < x.toInt64) = (8 < x) := il_lt 8 x
theorem il_l9 (x : Int32) : (x.toInt64 < 9) = (x < 9) := il_lt x 9
theorem il_g9 (x : Int32) : (9 < x.toInt64) = (9 < x) := il_lt 9 x
theorem il_l10 (x : Int32) : (x.toInt64 < 10) = (x < 10) := il_lt x 10
theorem il_g10 (x : Int32) : (10 < x.toInt64) = (10 < x) := il_lt 10 x
theorem il_l15 (x : Int32) : (x.toInt64 < 15) = (x < 15) := il_lt x 15
theorem il_g15 (x : Int32) : (15 < x.toInt64) = (15 < x) := il_lt 15 x
theorem il_l20 (x : Int32) : (x.toInt64 < 20) = (x < 20) := il_lt x 20
theorem il_g20 (x : Int32) : (20 < x.toInt64) = (20 < x) := il_lt 20 x
theorem il_l23 (x : Int32) : (x.toInt64 < 23) = (x < 23) := il_lt x 23
theorem il_g23 (x : Int32) : (23 < x.toInt64) = (23 < x) := il_lt 23 x
theorem il_l24 (x : Int32) : (x.toInt64 < 24) = (x < 24) := il_lt x 24
theorem il_g24 (x : Int32) : (24 < x.toInt64) = (24 < x) := il_lt 24 x
theorem il_l60 (x : Int32) : (x.toInt64 < 60) = (x < 60) := il_lt x 60
theorem il_g60 (x : Int32) : (60 < x.toInt64) = (60 < x) := il_lt 60 x
theorem il_l100 (x : Int32) : (x.toInt64 < 100) = (x < 100) := il_lt x 100
theorem il_g100 (x : Int32) : (100 < x.toInt64) = (100 < x) := il_lt 100 x
theorem il_l999 (x : Int32) : (x.toInt64 < 999) = (x < 999) := il_lt x 999
theorem il_g999 (x : Int32) : (999 < x.toInt64) = (999 < x) := il_lt 999 x
theorem il_l1000 (x : Int32) : (x.toInt64 < 1000) = (x < 1000) := il_lt x 1000
theorem il_g1000 (x : Int32) : (1000 < x.toInt64) = (1000 < x) := il_lt 1000 x
theorem le_f {a b : Nat} (h : b < a) : (a ≤ b) = False := eq_false (by omega)
theorem le_t {a b : Nat} (h : a ≤ b) : (a ≤ b) = True := eq_true h
theorem lt_f {a b : Nat} (h : b ≤ a) : (a < b) = False := eq_false (by omega)
theorem lt_t {a b : Nat} (h : a < b) : (a < b) = True := eq_true h
theorem eq_f {a b : Nat} (h : a ≠ b) : (a = b) = False := eq_false h
/-! the heap behind the fixed part -/
section
variable {r : rS} {x : xS} {h : pheap}
theorem rd_hi {a : Nat} (ha : 146 ≤ a) : (putR r (putX x h)).2.2 a = h.2.2 a := by rw [putR_hi r _ ha, putX_hi x h (by omega)]
theorem wr_hi {a k : Nat} {v : Value} (ha : 146 ≤ a) : hset (putR r (putX x h)) a k v = putR r (putX x (hset h a k v)) := by rw [hset_hi r _ ha, hset_Xhi x h (by omega)]
theorem nw_hi {t n : Nat} {f : Nat → Value} (hh : 146 ≤ h.1) : hnew (putR r (putX x h)) t n f = putR r (putX x (hnew h t n f)) := by rw [hnew_R r (putX x h) hh, hnew_X x h hh]
theorem hs_1 (a k : Nat) (v : Value) : (hset h a k v).1 = h.1 := rfl
theorem hs_u (a k : Nat) (v : Value) : (hset h a k v).2.1 = h.2.1 := rfl
theorem hs_s (a k : Nat) (v : Value) : (hset h a k v).2.2 a = ((h.2.2 a).1, (h.2.2 a).2.1, updV (h.2.2 a).2.2 k v) := if_pos rfl
theorem hs_o {a b : Nat} (k : Nat) (v : Value) (hb : b ≠ a) : (hset h a k v).2.2 b = h.2.2 b := if_neg hb
theorem hn_1 (t n : Nat) (f : Nat → Value) : (hnew h t n f).1 = h.1 + 1 := rfl
theorem hn_u (t n : Nat) (f : Nat → Value) : (hnew h t n f).2.1 = h.2.1 + n := rfl
theorem hn_s (t n : Nat) (f : Nat → Value) : (hnew h t n f).2.2 h.1 = (t, n, f) := if_pos rfl
theorem hn_o {b : Nat} (t n : Nat) (f : Nat → Value) (hb : b ≠ h.1) : (hnew h t n f).2.2 b = h.2.2 b := if_neg hb
theorem uv_s (f : Nat → Value) (k : Nat) (v : Value) : updV f k v k = v := if_pos rfl
theorem uv_o (f : Nat → Value) {k j : Nat} (v : Value) (hj : j ≠ k) : updV f k v j = f j := if_neg hj
/-- what a kind of cell has of tag and length stays -/
theorem hs_t (a k : Nat) (v : Value) (b : Nat) : ((hset h a k v).2.2 b).1 = (h.2.2 b).1 := by
  by_cases hb : b = a
  · subst hb; rw [hs_s]
  · rw [hs_o _ _ hb]
theorem hs_l (a k : Nat) (v : Value) (b : Nat) : ((hset h a k v).2.2 b).2.1 = (h.2.2 b).2.1 := by
  by_cases hb : b = a
  · subst hb; rw [hs_s]
  · rw [hs_o _ _ hb]
end
/-- a list's row: its object L, its reference's number q, n things p -/
def Lst (x : xS) (h : pheap) (L q n : Nat) (p : Nat → Nat) : Prop :=
  x.1 L 2 = nI n ∧ n ≤ 1000 ∧ ((x.2 q = 1 ∧ n = 0) ∨ 146 ≤ x.2 q) ∧ x.2 q < h.1 ∧ (h.2.2 (x.2 q)).1 = 24 ∧ n ≤ (h.2.2 (x.2 q)).2.1 ∧ (h.2.2 (x.2 q)).2.1 ≤ 1000 ∧ ∀ i, i < n → (h.2.2 (x.2 q)).2.2 i = .ref (p i)
section
variable {d : Nat} {h : pheap} {r : rS} {x : xS} {Q : Option Value → pheap → Prop} {n : Nat} {p : Nat → Nat}
theorem x_size (hh : 146 ≤ h.1) : Go (d + 1) 36 0 [.ref 22] [] (putR r (putX x h)) Q = Q (some (.int (x.1 22 2))) (putR r (putX x h)) := by
  simp only [e_36_0, e_36_0n, e_36_1, e_36_4, Option.toList_some, Option.toList_none, List.cons_append, List.nil_append, catS_cons, catS_nil, cat_int, cat_long, cat_ref, cat_null, c1_i, c1_r, c1_n, c1_m, true_and, and_true, and_self, putR_1, putR_u, eq_self, Nat.reduceLT, Nat.reduceLeDiff, Nat.reduceAdd, Nat.reduceEqDiff, vk_i, vk_l, vk_r, vk_n, vk_0, vk_1, if_true, if_false, not_true_eq_false, not_false_eq_true, false_and, and_false, ne_eq, true_or, or_true, ite_not, reduceCtorEq, putX_1, putX_u, putX_hi, hset_Xhi, px_5, xf_5_0, xf_5_1, xI_5_1, xf_5_2, xR_0, xf_5_3, xI_5_3, xf_5_4, xI_5_4, xf_5_5, xf_5_6, xI_5_6, xf_5_7, xf_5_8, xf_5_9, xf_5_10, xf_5_11, xf_5_12, xf_5_13, xf_5_14, xf_5_15, xI_5_15, px_6, xA_6, px_18, xA_18, px_19, xf_19_0, xI_19_0, xf_19_1, xR_1, xf_19_2, xI_19_2, px_20, xf_20_0, xI_20_0, xf_20_1, xR_2, xf_20_2, xI_20_2, px_21, xf_21_0, xI_21_0, xf_21_1, xR_3, xf_21_2, xI_21_2, px_22, xf_22_0, xI_22_0, xf_22_1, xR_4, xf_22_2, xI_22_2, px_23, xf_23_0, xI_23_0, xf_23_1, xR_5, xf_23_2, xI_23_2, px_24, xf_24_0, xI_24_0, xf_24_1, xR_6, xf_24_2, xI_24_2, px_25, xf_25_0, xI_25_0, xf_25_1, xI_25_1, xf_25_2, xf_25_3, xI_25_3, xf_25_4, xf_25_5, xf_25_6, px_26, xA_26, px_27, px_28, xA_28, px_29, xA_29, px_30, xA_30, px_31, xA_31, px_32, xA_32, px_33, xA_33, px_34, xA_34, px_35, xA_35, px_36, xA_36, px_37, xA_37, px_38, xA_38, px_39, xA_39, px_40, xA_40, px_41, xA_41, px_42, xA_42, px_43, xA_43, px_44, xA_44, px_45, xA_45, px_46, xA_46, px_47, xA_47, px_48, xA_48, px_49, xA_49, px_50, xA_50, px_51, xA_51, px_52, xA_52, px_53, xA_53, px_54, xA_54, px_55, xA_55, px_56, xA_56, px_57, xA_57, px_58, xA_58, px_59, xA_59, px_60, xA_60, px_61, xA_61, px_62, xA_62, px_63, xA_63, px_64, xA_64, px_65, xA_65, px_66, xA_66, px_67, xA_67, px_68, xA_68, px_69, xA_69, px_70, xf_70_0, xI_70_0, xf_70_1, xI_70_1, xf_70_2, xI_70_2, xf_70_3, xf_70_4, px_71, xA_71, px_72, xA_72, putR_lo, hset_lo, putR_lt hh]
theorem x_deskAt_in (hh : 146 ≤ h.1) (hl : Lst x h 22 4 n p) {i : Nat} (hi : i < n) (ht : (h.2.2 (p i)).1 = 4) (hp : 146 ≤ p i) (hp2 : p i < h.1) : Go (d + 5) 70 0 [.ref 5, .int (nI i)] [] (putR r (putX x h)) Q = Q (some (.ref (p i))) (putR r (putX x h)) := by
  obtain ⟨l1, l2, l3, l4, l5, l6, l7, l8⟩ := hl
  have he : 146 ≤ x.2 4 := by omega
  simp (disch := first | exact c1_i _ | exact c1_r _ | exact c1_n | exact c1_m | omega | assumption | (apply ac_l; omega) | (apply ac_r; omega) | decide | exact Or.inl rfl) only [e_70_0, e_70_1, e_70_4, e_70_5, e_70_5n, e_70_6, e_70_9, e_70_12, e_70_15, e_70_15n, e_70_16, e_70_19, e_70_20, e_70_23, e_70_23n, e_70_26, e_70_29, e_70_30, e_70_30n, e_36_0, e_36_0n, e_36_1, e_36_4, e_49_0, e_49_1, e_49_1n, e_49_2, e_49_5, e_49_8, e_49_9, e_49_9n, e_49_10, e_49_11, e_49_14, e_49_14n, e_50_0, e_50_1, e_50_2, e_50_3, e_50_6, e_51_0, e_51_1, e_51_4, e_51_5, e_51_6, e_51_9, e_51_9n, e_51_10, e_51_11, e_51_16, e_51_17, e_52_0, e_52_0n, e_52_1, e_52_4, e_52_5, e_52_6, e_52_6n, Option.toList_some, Option.toList_none, List.cons_append, List.nil_append, catS_cons, catS_nil, cat_int, cat_long, cat_ref, cat_null, c1_i, c1_r, c1_n, c1_m, true_and, and_true, and_self, putR_1, putR_u, eq_self, Nat.reduceLT, Nat.reduceLeDiff, Nat.reduceAdd, Nat.reduceEqDiff, vk_i, vk_l, vk_r, vk_n, vk_0, vk_1, if_true, if_false, not_true_eq_false, not_false_eq_true, false_and, and_false, ne_eq, true_or, or_true, ite_not, reduceCtorEq, putX_1, putX_u, putX_hi, hset_Xhi, px_5, xf_5_0, xf_5_1, xI_5_1, xf_5_2, xR_0, xf_5_3, xI_5_3, xf_5_4, xI_5_4, xf_5_5, xf_5_6, xI_5_6, xf_5_7, xf_5_8, xf_5_9, xf_5_10, xf_5_11, xf_5_12, xf_5_13, xf_5_14, xf_5_15, xI_5_15, px_6, xA_6, px_18, xA_18, px_19, xf_19_0, xI_19_0, xf_19_1, xR_1, xf_19_2, xI_19_2, px_20, xf_20_0, xI_20_0, xf_20_1, xR_2, xf_20_2, xI_20_2, px_21, xf_21_0, xI_21_0, xf_21_1, xR_3, xf_21_2, xI_21_2, px_22, xf_22_0, xI_22_0, xf_22_1, xR_4, xf_22_2, xI_22_2, px_23, xf_23_0, xI_23_0, xf_23_1, xR_5, xf_23_2, xI_23_2, px_24, xf_24_0, xI_24_0, xf_24_1, xR_6, xf_24_2, xI_24_2, px_25, xf_25_0, xI_25_0, xf_25_1, xI_25_1, xf_25_2, xf_25_3, xI_25_3, xf_25_4, xf_25_5, xf_25_6, px_26, xA_26, px_27, px_28, xA_28, px_29, xA_29, px_30, xA_30, px_31, xA_31, px_32, xA_32, px_33, xA_33, px_34, xA_34, px_35, xA_35, px_36, xA_36, px_37, xA_37, px_38, xA_38, px_39, xA_39, px_40, xA_40, px_41, xA_41, px_42, xA_42, px_43, xA_43, px_44, xA_44, px_45, xA_45, px_46, xA_46, px_47, xA_47, px_48, xA_48, px_49, xA_49, px_50, xA_50, px_51, xA_51, px_52, xA_52, px_53, xA_53, px_54, xA_54, px_55, xA_55, px_56, xA_56, px_57, xA_57, px_58, xA_58, px_59, xA_59, px_60, xA_60, px_61, xA_61, px_62, xA_62, px_63, xA_63, px_64, xA_64, px_65, xA_65, px_66, xA_66, px_67, xA_67, px_68, xA_68, px_69, xA_69, px_70, xf_70_0, xI_70_0, xf_70_1, xI_70_1, xf_70_2, xI_70_2, xf_70_3, xf_70_4, px_71, xA_71, px_72, xA_72, putR_lo, hset_lo, putR_lt hh, l1, ni_lt0, ni_le, ni_lt, ni_ix, ni_clamp, rd_hi, l4, l5, l8 i hi, ht, hp2, le_f, le_t, lt_t, lt_f]
end
