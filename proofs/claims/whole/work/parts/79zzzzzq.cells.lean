/-! the heap at the law's loop -/
section
variable {d a b f t n k i j m : Nat} {H H0 h : pheap} {Q : Option Value → pheap → Prop} {F : Nat → Value} {x : xS} {K : Nat → pcell} {L : Nat} {xs : Nat → Int32}
def xZ : xS := (fun a k => if a = 5 then (if k = 4 then -1 else 0) else if a = 69 then (if k < 40 then nI k else 0) else 0, fun q => if q = 0 then 7 else 1)
def rZ : rS := (fun k => if k = 3 then -1 else if k = 11 then 1 else 0, 0, fun a i => if a = 94 then (if i < 72 then 1 else 0) else 0, fun _ _ => 0)
def gZ : gS := (fun _ _ => 0, fun _ => (0, 0, 0), fun _ => (0, fun _ => 0), fun _ => (0, 0), fun k => if k = 1 then 1 else 0, fun a i => if a = 27 then i else 0)
theorem gd_hi {α : Type} (l : List α) (k : Nat) (e : α) (h : l.length ≤ k) : l.getD k e = e := by
  rw [List.getD_eq_getElem?_getD, List.getElem?_eq_none h]
  rfl
theorem fk_hi (hl : (fkL.getD t []).length ≤ k) (hk : k < 1000) : fkd (1000 * t + k) = 9 := by
  unfold fkd
  rw [show (1000 * t + k) / 1000 = t by omega, show (1000 * t + k) % 1000 = k by omega]
  exact gd_hi _ _ _ hl
theorem xfv_hi (hl : (xFd.getD (a - 5) []).length ≤ k) : xfv x a k = if isJ a k = true then dflF (fkd (1000 * (xTL.getD (a - 5) (0, 0)).1 + k)) else .int (x.1 a k) := by
  have e : xfc a k = 0 := gd_hi _ _ _ hl
  unfold xfv
  rw [if_pos e]
theorem hi_eq (ht : (xTL.getD (a - 5) (0, 0)).1 = t) (h20 : t < 20) (h1 : (xFd.getD (a - 5) []).length ≤ k) (h2 : (fkL.getD t []).length ≤ k) (h3 : x.1 a k = 0) : dflF (fkd (1000 * t + k)) = xfv x a k := by
  rw [xfv_hi h1, ht]
  by_cases hj : 1000 ≤ k
  · rw [if_pos (show isJ a k = true by unfold isJ; rw [ht, decide_eq_true h20, decide_eq_true hj]; rfl)]
  · rw [if_neg (show ¬ isJ a k = true by unfold isJ; rw [decide_eq_false hj, Bool.and_false]; decide), fk_hi h2 (by omega), h3]
    rfl
theorem cz_5 : cf cL12 6 5 ((12, 16, fun k => dflF (fkd (1000 * 12 + k))) : pcell) = xcell xZ 5 := by
  have e : cf cL12 6 5 ((12, 16, fun k => dflF (fkd (1000 * 12 + k))) : pcell) = (12, 16, (updV (updV (updV (updV (updV (updV (updV (updV (updV (updV (updV (updV (fun k => dflF (fkd (1000 * 12 + k))) 0 (.ref 6)) 2 (.ref 7)) 4 (.int (-1))) 5 (.ref 18)) 7 (.ref 19)) 8 (.ref 20)) 9 (.ref 21)) 10 (.ref 22)) 11 (.ref 23)) 12 (.ref 24)) 13 (.ref 25)) 14 (.ref 70))) := rfl
  have e1 : ∀ k, k < 16 → (updV (updV (updV (updV (updV (updV (updV (updV (updV (updV (updV (updV (fun k => dflF (fkd (1000 * 12 + k))) 0 (.ref 6)) 2 (.ref 7)) 4 (.int (-1))) 5 (.ref 18)) 7 (.ref 19)) 8 (.ref 20)) 9 (.ref 21)) 10 (.ref 22)) 11 (.ref 23)) 12 (.ref 24)) 13 (.ref 25)) 14 (.ref 70)) k = xfv xZ 5 k := by decide +kernel
  rw [e]
  refine Prod.ext rfl (Prod.ext rfl (funext fun k => ?_))
  show (updV (updV (updV (updV (updV (updV (updV (updV (updV (updV (updV (updV (fun k => dflF (fkd (1000 * 12 + k))) 0 (.ref 6)) 2 (.ref 7)) 4 (.int (-1))) 5 (.ref 18)) 7 (.ref 19)) 8 (.ref 20)) 9 (.ref 21)) 10 (.ref 22)) 11 (.ref 23)) 12 (.ref 24)) 13 (.ref 25)) 14 (.ref 70)) k = xfv xZ 5 k
  rcases Nat.lt_or_ge k 16 with hk | hk
  · exact e1 k hk
  · rw [uv_o _ _ (by omega), uv_o _ _ (by omega), uv_o _ _ (by omega), uv_o _ _ (by omega), uv_o _ _ (by omega), uv_o _ _ (by omega), uv_o _ _ (by omega), uv_o _ _ (by omega), uv_o _ _ (by omega), uv_o _ _ (by omega), uv_o _ _ (by omega), uv_o _ _ (by omega)]
    exact hi_eq (t := 12) rfl (by decide) (Nat.le_trans (by decide) hk) (Nat.le_trans (by decide) hk) (if_neg (by omega))
theorem cz_6 (c : pcell) : cf cL12 6 6 c = xcell xZ 6 := Prod.ext rfl (Prod.ext rfl (funext fun _ => rfl))
theorem cz_18 (c : pcell) : cf cL12 6 18 c = xcell xZ 18 := Prod.ext rfl (Prod.ext rfl (funext fun _ => rfl))
theorem cz_19 (c : pcell) : cf cL12 6 19 c = xcell xZ 19 := by
  have e : cf cL12 6 19 c = (0, 3, (updV (updV (fun k => dflF (fkd (1000 * 0 + k))) 0 (.int (0))) 1 (.ref 1))) := rfl
  have e1 : ∀ k, k < 3 → (updV (updV (fun k => dflF (fkd (1000 * 0 + k))) 0 (.int (0))) 1 (.ref 1)) k = xfv xZ 19 k := by decide +kernel
  rw [e]
  refine Prod.ext rfl (Prod.ext rfl (funext fun k => ?_))
  show (updV (updV (fun k => dflF (fkd (1000 * 0 + k))) 0 (.int (0))) 1 (.ref 1)) k = xfv xZ 19 k
  rcases Nat.lt_or_ge k 3 with hk | hk
  · exact e1 k hk
  · rw [uv_o _ _ (by omega), uv_o _ _ (by omega)]
    exact hi_eq (t := 0) rfl (by decide) (Nat.le_trans (by decide) hk) (Nat.le_trans (by decide) hk) (rfl)
theorem cz_20 (c : pcell) : cf cL12 6 20 c = xcell xZ 20 := by
  have e : cf cL12 6 20 c = (0, 3, (updV (updV (fun k => dflF (fkd (1000 * 0 + k))) 0 (.int (0))) 1 (.ref 1))) := rfl
  have e1 : ∀ k, k < 3 → (updV (updV (fun k => dflF (fkd (1000 * 0 + k))) 0 (.int (0))) 1 (.ref 1)) k = xfv xZ 20 k := by decide +kernel
  rw [e]
  refine Prod.ext rfl (Prod.ext rfl (funext fun k => ?_))
  show (updV (updV (fun k => dflF (fkd (1000 * 0 + k))) 0 (.int (0))) 1 (.ref 1)) k = xfv xZ 20 k
  rcases Nat.lt_or_ge k 3 with hk | hk
  · exact e1 k hk
  · rw [uv_o _ _ (by omega), uv_o _ _ (by omega)]
    exact hi_eq (t := 0) rfl (by decide) (Nat.le_trans (by decide) hk) (Nat.le_trans (by decide) hk) (rfl)
theorem cz_21 (c : pcell) : cf cL12 6 21 c = xcell xZ 21 := by
  have e : cf cL12 6 21 c = (0, 3, (updV (updV (fun k => dflF (fkd (1000 * 0 + k))) 0 (.int (0))) 1 (.ref 1))) := rfl
  have e1 : ∀ k, k < 3 → (updV (updV (fun k => dflF (fkd (1000 * 0 + k))) 0 (.int (0))) 1 (.ref 1)) k = xfv xZ 21 k := by decide +kernel
  rw [e]
  refine Prod.ext rfl (Prod.ext rfl (funext fun k => ?_))
  show (updV (updV (fun k => dflF (fkd (1000 * 0 + k))) 0 (.int (0))) 1 (.ref 1)) k = xfv xZ 21 k
  rcases Nat.lt_or_ge k 3 with hk | hk
  · exact e1 k hk
  · rw [uv_o _ _ (by omega), uv_o _ _ (by omega)]
    exact hi_eq (t := 0) rfl (by decide) (Nat.le_trans (by decide) hk) (Nat.le_trans (by decide) hk) (rfl)
theorem cz_22 (c : pcell) : cf cL12 6 22 c = xcell xZ 22 := by
  have e : cf cL12 6 22 c = (0, 3, (updV (updV (fun k => dflF (fkd (1000 * 0 + k))) 0 (.int (0))) 1 (.ref 1))) := rfl
  have e1 : ∀ k, k < 3 → (updV (updV (fun k => dflF (fkd (1000 * 0 + k))) 0 (.int (0))) 1 (.ref 1)) k = xfv xZ 22 k := by decide +kernel
  rw [e]
  refine Prod.ext rfl (Prod.ext rfl (funext fun k => ?_))
  show (updV (updV (fun k => dflF (fkd (1000 * 0 + k))) 0 (.int (0))) 1 (.ref 1)) k = xfv xZ 22 k
  rcases Nat.lt_or_ge k 3 with hk | hk
  · exact e1 k hk
  · rw [uv_o _ _ (by omega), uv_o _ _ (by omega)]
    exact hi_eq (t := 0) rfl (by decide) (Nat.le_trans (by decide) hk) (Nat.le_trans (by decide) hk) (rfl)
theorem cz_23 (c : pcell) : cf cL12 6 23 c = xcell xZ 23 := by
  have e : cf cL12 6 23 c = (0, 3, (updV (updV (fun k => dflF (fkd (1000 * 0 + k))) 0 (.int (0))) 1 (.ref 1))) := rfl
  have e1 : ∀ k, k < 3 → (updV (updV (fun k => dflF (fkd (1000 * 0 + k))) 0 (.int (0))) 1 (.ref 1)) k = xfv xZ 23 k := by decide +kernel
  rw [e]
  refine Prod.ext rfl (Prod.ext rfl (funext fun k => ?_))
  show (updV (updV (fun k => dflF (fkd (1000 * 0 + k))) 0 (.int (0))) 1 (.ref 1)) k = xfv xZ 23 k
  rcases Nat.lt_or_ge k 3 with hk | hk
  · exact e1 k hk
  · rw [uv_o _ _ (by omega), uv_o _ _ (by omega)]
    exact hi_eq (t := 0) rfl (by decide) (Nat.le_trans (by decide) hk) (Nat.le_trans (by decide) hk) (rfl)
theorem cz_24 (c : pcell) : cf cL12 6 24 c = xcell xZ 24 := by
  have e : cf cL12 6 24 c = (0, 3, (updV (updV (fun k => dflF (fkd (1000 * 0 + k))) 0 (.int (0))) 1 (.ref 1))) := rfl
  have e1 : ∀ k, k < 3 → (updV (updV (fun k => dflF (fkd (1000 * 0 + k))) 0 (.int (0))) 1 (.ref 1)) k = xfv xZ 24 k := by decide +kernel
  rw [e]
  refine Prod.ext rfl (Prod.ext rfl (funext fun k => ?_))
  show (updV (updV (fun k => dflF (fkd (1000 * 0 + k))) 0 (.int (0))) 1 (.ref 1)) k = xfv xZ 24 k
  rcases Nat.lt_or_ge k 3 with hk | hk
  · exact e1 k hk
  · rw [uv_o _ _ (by omega), uv_o _ _ (by omega)]
    exact hi_eq (t := 0) rfl (by decide) (Nat.le_trans (by decide) hk) (Nat.le_trans (by decide) hk) (rfl)
theorem cz_25 (c : pcell) : cf cL12 6 25 c = xcell xZ 25 := by
  have e : cf cL12 6 25 c = (10, 7, (updV (updV (updV (updV (fun k => dflF (fkd (1000 * 10 + k))) 2 (.ref 26)) 4 (.ref 27)) 5 (.ref 68)) 6 (.ref 69))) := rfl
  have e1 : ∀ k, k < 7 → (updV (updV (updV (updV (fun k => dflF (fkd (1000 * 10 + k))) 2 (.ref 26)) 4 (.ref 27)) 5 (.ref 68)) 6 (.ref 69)) k = xfv xZ 25 k := by decide +kernel
  rw [e]
  refine Prod.ext rfl (Prod.ext rfl (funext fun k => ?_))
  show (updV (updV (updV (updV (fun k => dflF (fkd (1000 * 10 + k))) 2 (.ref 26)) 4 (.ref 27)) 5 (.ref 68)) 6 (.ref 69)) k = xfv xZ 25 k
  rcases Nat.lt_or_ge k 7 with hk | hk
  · exact e1 k hk
  · rw [uv_o _ _ (by omega), uv_o _ _ (by omega), uv_o _ _ (by omega), uv_o _ _ (by omega)]
    exact hi_eq (t := 10) rfl (by decide) (Nat.le_trans (by decide) hk) (Nat.le_trans (by decide) hk) (rfl)
theorem cz_26 (c : pcell) : cf cL12 6 26 c = xcell xZ 26 := Prod.ext rfl (Prod.ext rfl (funext fun _ => rfl))
theorem cz_27 (c : pcell) : cf cL12 6 27 c = xcell xZ 27 := Prod.ext rfl (Prod.ext rfl (funext fun _ => rfl))
theorem cz_28 (c : pcell) : cf cL12 6 28 c = xcell xZ 28 := Prod.ext rfl (Prod.ext rfl (funext fun _ => rfl))
theorem cz_29 (c : pcell) : cf cL12 6 29 c = xcell xZ 29 := Prod.ext rfl (Prod.ext rfl (funext fun _ => rfl))
theorem cz_30 (c : pcell) : cf cL12 6 30 c = xcell xZ 30 := Prod.ext rfl (Prod.ext rfl (funext fun _ => rfl))
theorem cz_31 (c : pcell) : cf cL12 6 31 c = xcell xZ 31 := Prod.ext rfl (Prod.ext rfl (funext fun _ => rfl))
theorem cz_32 (c : pcell) : cf cL12 6 32 c = xcell xZ 32 := Prod.ext rfl (Prod.ext rfl (funext fun _ => rfl))
theorem cz_33 (c : pcell) : cf cL12 6 33 c = xcell xZ 33 := Prod.ext rfl (Prod.ext rfl (funext fun _ => rfl))
theorem cz_34 (c : pcell) : cf cL12 6 34 c = xcell xZ 34 := Prod.ext rfl (Prod.ext rfl (funext fun _ => rfl))
theorem cz_35 (c : pcell) : cf cL12 6 35 c = xcell xZ 35 := Prod.ext rfl (Prod.ext rfl (funext fun _ => rfl))
theorem cz_36 (c : pcell) : cf cL12 6 36 c = xcell xZ 36 := Prod.ext rfl (Prod.ext rfl (funext fun _ => rfl))
theorem cz_37 (c : pcell) : cf cL12 6 37 c = xcell xZ 37 := Prod.ext rfl (Prod.ext rfl (funext fun _ => rfl))
theorem cz_38 (c : pcell) : cf cL12 6 38 c = xcell xZ 38 := Prod.ext rfl (Prod.ext rfl (funext fun _ => rfl))
theorem cz_39 (c : pcell) : cf cL12 6 39 c = xcell xZ 39 := Prod.ext rfl (Prod.ext rfl (funext fun _ => rfl))
theorem cz_40 (c : pcell) : cf cL12 6 40 c = xcell xZ 40 := Prod.ext rfl (Prod.ext rfl (funext fun _ => rfl))
theorem cz_41 (c : pcell) : cf cL12 6 41 c = xcell xZ 41 := Prod.ext rfl (Prod.ext rfl (funext fun _ => rfl))
theorem cz_42 (c : pcell) : cf cL12 6 42 c = xcell xZ 42 := Prod.ext rfl (Prod.ext rfl (funext fun _ => rfl))
theorem cz_43 (c : pcell) : cf cL12 6 43 c = xcell xZ 43 := Prod.ext rfl (Prod.ext rfl (funext fun _ => rfl))
theorem cz_44 (c : pcell) : cf cL12 6 44 c = xcell xZ 44 := Prod.ext rfl (Prod.ext rfl (funext fun _ => rfl))
theorem cz_45 (c : pcell) : cf cL12 6 45 c = xcell xZ 45 := Prod.ext rfl (Prod.ext rfl (funext fun _ => rfl))
theorem cz_46 (c : pcell) : cf cL12 6 46 c = xcell xZ 46 := Prod.ext rfl (Prod.ext rfl (funext fun _ => rfl))
theorem cz_47 (c : pcell) : cf cL12 6 47 c = xcell xZ 47 := Prod.ext rfl (Prod.ext rfl (funext fun _ => rfl))
theorem cz_48 (c : pcell) : cf cL12 6 48 c = xcell xZ 48 := Prod.ext rfl (Prod.ext rfl (funext fun _ => rfl))
theorem cz_49 (c : pcell) : cf cL12 6 49 c = xcell xZ 49 := Prod.ext rfl (Prod.ext rfl (funext fun _ => rfl))
theorem cz_50 (c : pcell) : cf cL12 6 50 c = xcell xZ 50 := Prod.ext rfl (Prod.ext rfl (funext fun _ => rfl))
theorem cz_51 (c : pcell) : cf cL12 6 51 c = xcell xZ 51 := Prod.ext rfl (Prod.ext rfl (funext fun _ => rfl))
theorem cz_52 (c : pcell) : cf cL12 6 52 c = xcell xZ 52 := Prod.ext rfl (Prod.ext rfl (funext fun _ => rfl))
theorem cz_53 (c : pcell) : cf cL12 6 53 c = xcell xZ 53 := Prod.ext rfl (Prod.ext rfl (funext fun _ => rfl))
theorem cz_54 (c : pcell) : cf cL12 6 54 c = xcell xZ 54 := Prod.ext rfl (Prod.ext rfl (funext fun _ => rfl))
theorem cz_55 (c : pcell) : cf cL12 6 55 c = xcell xZ 55 := Prod.ext rfl (Prod.ext rfl (funext fun _ => rfl))
theorem cz_56 (c : pcell) : cf cL12 6 56 c = xcell xZ 56 := Prod.ext rfl (Prod.ext rfl (funext fun _ => rfl))
theorem cz_57 (c : pcell) : cf cL12 6 57 c = xcell xZ 57 := Prod.ext rfl (Prod.ext rfl (funext fun _ => rfl))
theorem cz_58 (c : pcell) : cf cL12 6 58 c = xcell xZ 58 := Prod.ext rfl (Prod.ext rfl (funext fun _ => rfl))
theorem cz_59 (c : pcell) : cf cL12 6 59 c = xcell xZ 59 := Prod.ext rfl (Prod.ext rfl (funext fun _ => rfl))
theorem cz_60 (c : pcell) : cf cL12 6 60 c = xcell xZ 60 := Prod.ext rfl (Prod.ext rfl (funext fun _ => rfl))
theorem cz_61 (c : pcell) : cf cL12 6 61 c = xcell xZ 61 := Prod.ext rfl (Prod.ext rfl (funext fun _ => rfl))
theorem cz_62 (c : pcell) : cf cL12 6 62 c = xcell xZ 62 := Prod.ext rfl (Prod.ext rfl (funext fun _ => rfl))
theorem cz_63 (c : pcell) : cf cL12 6 63 c = xcell xZ 63 := Prod.ext rfl (Prod.ext rfl (funext fun _ => rfl))
theorem cz_64 (c : pcell) : cf cL12 6 64 c = xcell xZ 64 := Prod.ext rfl (Prod.ext rfl (funext fun _ => rfl))
theorem cz_65 (c : pcell) : cf cL12 6 65 c = xcell xZ 65 := Prod.ext rfl (Prod.ext rfl (funext fun _ => rfl))
theorem cz_66 (c : pcell) : cf cL12 6 66 c = xcell xZ 66 := Prod.ext rfl (Prod.ext rfl (funext fun _ => rfl))
theorem cz_67 (c : pcell) : cf cL12 6 67 c = xcell xZ 67 := Prod.ext rfl (Prod.ext rfl (funext fun _ => rfl))
theorem cz_68 (c : pcell) : cf cL12 6 68 c = xcell xZ 68 := Prod.ext rfl (Prod.ext rfl (funext fun _ => rfl))
theorem cz_69 (c : pcell) : cf cL12 6 69 c = xcell xZ 69 := by
  refine Prod.ext rfl (Prod.ext rfl (funext fun k => ?_))
  show (if k < 40 then Value.int (nI k) else .int 0) = .int (if k < 40 then nI k else 0)
  by_cases hk : k < 40
  · rw [if_pos hk, if_pos hk]
  · rw [if_neg hk, if_neg hk]
theorem cz_70 (c : pcell) : cf cL12 6 70 c = xcell xZ 70 := by
  have e : cf cL12 6 70 c = (11, 5, (updV (updV (fun k => dflF (fkd (1000 * 11 + k))) 3 (.ref 71)) 4 (.ref 72))) := rfl
  have e1 : ∀ k, k < 5 → (updV (updV (fun k => dflF (fkd (1000 * 11 + k))) 3 (.ref 71)) 4 (.ref 72)) k = xfv xZ 70 k := by decide +kernel
  rw [e]
  refine Prod.ext rfl (Prod.ext rfl (funext fun k => ?_))
  show (updV (updV (fun k => dflF (fkd (1000 * 11 + k))) 3 (.ref 71)) 4 (.ref 72)) k = xfv xZ 70 k
  rcases Nat.lt_or_ge k 5 with hk | hk
  · exact e1 k hk
  · rw [uv_o _ _ (by omega), uv_o _ _ (by omega)]
    exact hi_eq (t := 11) rfl (by decide) (Nat.le_trans (by decide) hk) (Nat.le_trans (by decide) hk) (rfl)
theorem cz_71 (c : pcell) : cf cL12 6 71 c = xcell xZ 71 := Prod.ext rfl (Prod.ext rfl (funext fun _ => rfl))
theorem cz_72 (c : pcell) : cf cL12 6 72 c = xcell xZ 72 := Prod.ext rfl (Prod.ext rfl (funext fun _ => rfl))
set_option maxRecDepth 20000 in
theorem cz_all : ∀ a, isX a → ∀ c : pcell, (a = 5 → c = (12, 16, fun k => dflF (fkd (1000 * 12 + k)))) → cf cL12 6 a c = xcell xZ a
  | 0, h, _, _ => absurd h.1 (by decide)
  | 1, h, _, _ => absurd h.1 (by decide)
  | 2, h, _, _ => absurd h.1 (by decide)
  | 3, h, _, _ => absurd h.1 (by decide)
  | 4, h, _, _ => absurd h.1 (by decide)
  | 5, _, c, hc => by rw [hc rfl]; exact cz_5
  | 6, _, c, _ => cz_6 c
  | 7, h, _, _ => absurd ⟨by decide, by decide⟩ h.2.2
  | 8, h, _, _ => absurd ⟨by decide, by decide⟩ h.2.2
  | 9, h, _, _ => absurd ⟨by decide, by decide⟩ h.2.2
  | 10, h, _, _ => absurd ⟨by decide, by decide⟩ h.2.2
  | 11, h, _, _ => absurd ⟨by decide, by decide⟩ h.2.2
  | 12, h, _, _ => absurd ⟨by decide, by decide⟩ h.2.2
  | 13, h, _, _ => absurd ⟨by decide, by decide⟩ h.2.2
  | 14, h, _, _ => absurd ⟨by decide, by decide⟩ h.2.2
  | 15, h, _, _ => absurd ⟨by decide, by decide⟩ h.2.2
  | 16, h, _, _ => absurd ⟨by decide, by decide⟩ h.2.2
  | 17, h, _, _ => absurd ⟨by decide, by decide⟩ h.2.2
  | 18, _, c, _ => cz_18 c
  | 19, _, c, _ => cz_19 c
  | 20, _, c, _ => cz_20 c
  | 21, _, c, _ => cz_21 c
  | 22, _, c, _ => cz_22 c
  | 23, _, c, _ => cz_23 c
  | 24, _, c, _ => cz_24 c
  | 25, _, c, _ => cz_25 c
  | 26, _, c, _ => cz_26 c
  | 27, _, c, _ => cz_27 c
  | 28, _, c, _ => cz_28 c
  | 29, _, c, _ => cz_29 c
  | 30, _, c, _ => cz_30 c
  | 31, _, c, _ => cz_31 c
  | 32, _, c, _ => cz_32 c
  | 33, _, c, _ => cz_33 c
  | 34, _, c, _ => cz_34 c
  | 35, _, c, _ => cz_35 c
  | 36, _, c, _ => cz_36 c
  | 37, _, c, _ => cz_37 c
  | 38, _, c, _ => cz_38 c
  | 39, _, c, _ => cz_39 c
  | 40, _, c, _ => cz_40 c
  | 41, _, c, _ => cz_41 c
  | 42, _, c, _ => cz_42 c
  | 43, _, c, _ => cz_43 c
  | 44, _, c, _ => cz_44 c
  | 45, _, c, _ => cz_45 c
  | 46, _, c, _ => cz_46 c
  | 47, _, c, _ => cz_47 c
  | 48, _, c, _ => cz_48 c
  | 49, _, c, _ => cz_49 c
  | 50, _, c, _ => cz_50 c
  | 51, _, c, _ => cz_51 c
  | 52, _, c, _ => cz_52 c
  | 53, _, c, _ => cz_53 c
  | 54, _, c, _ => cz_54 c
  | 55, _, c, _ => cz_55 c
  | 56, _, c, _ => cz_56 c
  | 57, _, c, _ => cz_57 c
  | 58, _, c, _ => cz_58 c
  | 59, _, c, _ => cz_59 c
  | 60, _, c, _ => cz_60 c
  | 61, _, c, _ => cz_61 c
  | 62, _, c, _ => cz_62 c
  | 63, _, c, _ => cz_63 c
  | 64, _, c, _ => cz_64 c
  | 65, _, c, _ => cz_65 c
  | 66, _, c, _ => cz_66 c
  | 67, _, c, _ => cz_67 c
  | 68, _, c, _ => cz_68 c
  | 69, _, c, _ => cz_69 c
  | 70, _, c, _ => cz_70 c
  | 71, _, c, _ => cz_71 c
  | 72, _, c, _ => cz_72 c
  | n + 73, h, _, _ => absurd h.2.1 (by omega)
set_option maxRecDepth 20000 in
theorem cz_old : ∀ a, a < 5 → ∀ c : pcell, cf cL12 6 a c = c
  | 0, _, c => rfl
  | 1, _, c => rfl
  | 2, _, c => rfl
  | 3, _, c => rfl
  | 4, _, c => rfl
  | n + 5, h, _ => absurd h (by omega)
set_option maxRecDepth 20000 in
theorem cz_7 (c : pcell) : cf cL12 6 7 c = (1, 13, (updV (updV (updV (updV (updV (updV (updV (updV (updV (updV (fun k => dflF (fkd (1000 * 1 + k))) 3 (.ref 8)) 4 (.ref 9)) 5 (.ref 10)) 6 (.ref 11)) 7 (.ref 12)) 8 (.ref 13)) 9 (.ref 14)) 10 (.ref 15)) 11 (.ref 16)) 12 (.ref 17))) := rfl
set_option maxRecDepth 20000 in
theorem cz_8 (c : pcell) : cf cL12 6 8 c = (21, 8, fun _ => dflA 21) := rfl
set_option maxRecDepth 20000 in
theorem cz_9 (c : pcell) : cf cL12 6 9 c = (21, 6, fun _ => dflA 21) := rfl
set_option maxRecDepth 20000 in
theorem cz_10 (c : pcell) : cf cL12 6 10 c = (21, 8, fun _ => dflA 21) := rfl
set_option maxRecDepth 20000 in
theorem cz_11 (c : pcell) : cf cL12 6 11 c = (20, 9, fun _ => dflA 20) := rfl
set_option maxRecDepth 20000 in
theorem cz_12 (c : pcell) : cf cL12 6 12 c = (20, 6, fun _ => dflA 20) := rfl
set_option maxRecDepth 20000 in
theorem cz_13 (c : pcell) : cf cL12 6 13 c = (20, 36, fun _ => dflA 20) := rfl
set_option maxRecDepth 20000 in
theorem cz_14 (c : pcell) : cf cL12 6 14 c = (20, 8, fun _ => dflA 20) := rfl
set_option maxRecDepth 20000 in
theorem cz_15 (c : pcell) : cf cL12 6 15 c = (20, 64, fun _ => dflA 20) := rfl
set_option maxRecDepth 20000 in
theorem cz_16 (c : pcell) : cf cL12 6 16 c = (20, 64, fun _ => dflA 20) := rfl
set_option maxRecDepth 20000 in
theorem cz_17 (c : pcell) : cf cL12 6 17 c = (20, 192, fun _ => dflA 20) := rfl
end
