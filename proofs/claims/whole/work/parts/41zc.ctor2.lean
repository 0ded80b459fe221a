section
variable {d a b f t n k : Nat} {H h : pheap} {Q : Option Value → pheap → Prop} {v : Value} {V1 V2 : Value}
def nA : List (Nat × Nat × Nat × Int32) → Nat
  | [] => 0
  | e :: l => (if e.2.1 = 0 then 0 else 1) + nA l
def FF : List (Nat × Nat × Nat × Int32) → Nat → (Nat → Value) → Nat → Value
  | [], _, F => F
  | e :: l, b, F => if e.2.1 = 0 then FF l b (updV F e.1 (.int e.2.2.2)) else FF l (b + 1) (updV F e.1 (.ref b))
theorem st_1 {e : Nat × Nat × Nat × Int32} : (stp H e).1 = H.1 + (if e.2.1 = 0 then 0 else 1) := by
  unfold stp
  by_cases z : e.2.1 = 0
  · rw [if_pos z, if_pos z]; rfl
  · rw [if_neg z, if_neg z]; rfl
theorem st_o {e : Nat × Nat × Nat × Int32} (h1 : a ≠ 73) (h2 : a < H.1) : (stp H e).2.2 a = H.2.2 a := by
  unfold stp
  by_cases z : e.2.1 = 0
  · rw [if_pos z]; exact hs_o _ _ h1
  · rw [if_neg z]; exact al_o h1 (by omega)
theorem fo_1 : ∀ (l : List (Nat × Nat × Nat × Int32)) (H : pheap), (l.foldl stp H).1 = H.1 + nA l
  | [], _ => rfl
  | e :: l, H => by
    rw [List.foldl_cons, fo_1 l, st_1]
    show _ = H.1 + ((if e.2.1 = 0 then 0 else 1) + nA l)
    omega
theorem fo_lo : ∀ (l : List (Nat × Nat × Nat × Int32)) (H : pheap), a ≠ 73 → a < H.1 → (l.foldl stp H).2.2 a = H.2.2 a
  | [], _, _, _ => rfl
  | e :: l, H, h1, h2 => by
    rw [List.foldl_cons, fo_lo l (stp H e) h1 (by rw [st_1]; omega)]
    exact st_o h1 h2
theorem fo_at : ∀ (l : List (Nat × Nat × Nat × Int32)) (H : pheap) (l1 l2 : List (Nat × Nat × Nat × Int32)) (e : Nat × Nat × Nat × Int32), okH H → l = l1 ++ e :: l2 → ¬ e.2.1 = 0 → (l.foldl stp H).2.2 (H.1 + nA l1) = (e.2.1, e.2.2.1, fun _ => dflA e.2.1)
  | l, H, [], l2, e, hk, hl, he => by
    subst hl
    show ((e :: l2).foldl stp H).2.2 (H.1 + 0) = _
    have hk1 := hk.1
    rw [List.foldl_cons, fo_lo l2 (stp H e) (by omega) (by rw [st_1, if_neg he]; omega)]
    unfold stp
    rw [if_neg he]
    exact al_s hk.1
  | l, H, e1 :: l1, l2, e, hk, hl, he => by
    subst hl
    show ((e1 :: (l1 ++ e :: l2)).foldl stp H).2.2 (H.1 + ((if e1.2.1 = 0 then 0 else 1) + nA l1)) = _
    have := fo_at (l1 ++ e :: l2) (stp H e1) l1 l2 e (ok_s hk) rfl he
    rw [st_1, Nat.add_assoc] at this
    exact this
theorem fo_f : ∀ (l : List (Nat × Nat × Nat × Int32)) (H : pheap), okH H → (l.foldl stp H).2.2 73 = ((H.2.2 73).1, (H.2.2 73).2.1, FF l H.1 (H.2.2 73).2.2)
  | [], _, _ => rfl
  | e :: l, H, hk => by
    rw [List.foldl_cons, fo_f l (stp H e) (ok_s hk), st_1]
    by_cases z : e.2.1 = 0
    · have e1 : stp H e = hset H 73 e.1 (.int e.2.2.2) := if_pos z
      have e2 : FF (e :: l) H.1 (H.2.2 73).2.2 = FF l H.1 (updV (H.2.2 73).2.2 e.1 (.int e.2.2.2)) := if_pos z
      rw [e1, e2, if_pos z, hs_s]
      rfl
    · have e1 : stp H e = al1 H 73 e.1 e.2.1 e.2.2.1 := if_neg z
      have e2 : FF (e :: l) H.1 (H.2.2 73).2.2 = FF l (H.1 + 1) (updV (H.2.2 73).2.2 e.1 (.ref H.1)) := if_neg z
      rw [e1, e2, if_neg z, al_b hk.1]
end
