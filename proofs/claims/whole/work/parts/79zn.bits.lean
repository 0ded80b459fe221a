/-! bits of parts -/
theorem b_shr : ∀ b, b < 1024 → ∀ p, p < 10 → ((nI b >>> (nI p &&& 31)) &&& 1) = (if bt b p = true then 1 else 0) := by decide +kernel
theorem b_or : ∀ b, b < 1024 → ∀ p, p < 10 → (nI b ||| ((1 : Int32) <<< (nI p &&& 31))) = nI (b ||| 2 ^ p) := by decide +kernel
theorem b_pcn : ∀ b, b < 1024 → ∀ p, p < 10 → bt b p = false → pcn (b ||| 2 ^ p) = pcn b + 1 := by decide +kernel
theorem b_who : ∀ o, o < 11 → ∀ b, b < 2 ^ o → (pcn b = o ↔ b = 2 ^ o - 1) := by decide +kernel
theorem b_shl : ∀ o, o < 11 → ((1 : Int32) <<< (nI o &&& 31)) - 1 = nI (2 ^ o - 1) := by decide +kernel
theorem b_p10 : ∀ b, b < 1024 → pcn b ≤ 10 ∧ (pcn b = 0 ↔ b = 0) := by decide +kernel
theorem b_bt {b p q : Nat} : bt (b ||| 2 ^ p) q = (bt b q || decide (p = q)) := by
  unfold bt
  rw [Nat.testBit_or, Nat.testBit_two_pow]
theorem b_lt {b p o : Nat} (h1 : b < 2 ^ o) (h2 : p < o) : b ||| 2 ^ p < 2 ^ o := Nat.or_lt_two_pow h1 (Nat.pow_lt_pow_right (by omega) h2)
theorem b_ne {b p : Nat} : b ||| 2 ^ p ≠ 0 := fun z => by
  have := b_bt (b := b) (p := p) (q := p)
  rw [z] at this
  unfold bt at this
  rw [Nat.zero_testBit, decide_eq_true rfl, Bool.or_true] at this
  cases this
theorem b_1024 {o : Nat} (h : o ≤ 10) {b : Nat} (hb : b < 2 ^ o) : b < 1024 := Nat.lt_of_lt_of_le hb (Nat.pow_le_pow_right (by omega) h)
theorem b_all {b o p : Nat} (h : b = 2 ^ o - 1) (hp : p < o) : bt b p = true := by
  unfold bt
  rw [h, Nat.testBit_two_pow_sub_one]
  exact decide_eq_true hp
theorem sb_s {n : Nat} (h : n < 128) : sb (nI n) = nI n := by
  have : ∀ n, n < 128 → sb (nI n) = nI n := by decide +kernel
  exact this n h
/-! bytes of a row -/
def bwF (F : Nat → Value) (s : Nat) (f : Nat → Int32) (k : Nat) : Nat → Value := fun i => if s ≤ i ∧ i < s + k then .int (sb (f (i - s))) else F i
theorem bwF_0 (F : Nat → Value) (s : Nat) (f : Nat → Int32) : bwF F s f 0 = F := funext fun i => if_neg (by omega)
theorem bwF_u (F : Nat → Value) (s : Nat) (f : Nat → Int32) (k : Nat) : updV (bwF F s f k) (s + k) (.int (sb (f k))) = bwF F s f (k + 1) := funext fun i => by
  unfold updV bwF
  by_cases h1 : i = s + k
  · rw [if_pos h1, if_pos (by omega), h1, Nat.add_sub_cancel_left]
  · rw [if_neg h1]
    by_cases h2 : s ≤ i ∧ i < s + k
    · rw [if_pos h2, if_pos (by omega)]
    · rw [if_neg h2, if_neg (by omega)]
