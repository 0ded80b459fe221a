/-! the world at the start -/
section
variable {d a b f t n k i j m : Nat} {H H0 h : pheap} {K : Nat → pcell} {L : Nat} {xs : Nat → Int32}
theorem no_ref {p : Nat} {c : Nat × Nat} (hr : Ref0 gZ xZ.2 p c) : False := by
  rcases hr with ⟨i, hi, _⟩ | ⟨o, ho, _⟩ | ⟨m, hm, _⟩ | ⟨f, hf, _⟩ | ⟨k, hk, _⟩ | ⟨k, hk, _⟩ | ⟨j, _, h1, _⟩ | ⟨q, h1, h2, h3, _⟩ | ⟨j, _, h1, _⟩
  · exact Nat.not_lt_zero _ hi
  · exact Nat.not_lt_zero _ ho
  · exact Nat.not_lt_zero _ hm
  · exact Nat.not_lt_zero _ hf
  · exact Nat.not_lt_zero _ hk
  · exact Nat.not_lt_zero _ hk
  · exact h1 rfl
  · exact h3 (if_neg (by omega))
  · exact h1 rfl
theorem bk_start (h5 : H0.1 = 5) : BK7 gZ rZ xZ (HZ H0) := by
  have c0 : (HZ H0).2.2 7 = _ := (hz_lo h5 (by omega)).trans (cz_7 _)
  have c4 : (HZ H0).2.2 11 = _ := (hz_lo h5 (by omega)).trans (cz_11 _)
  have c5 : (HZ H0).2.2 12 = _ := (hz_lo h5 (by omega)).trans (cz_12 _)
  have c6 : (HZ H0).2.2 13 = _ := (hz_lo h5 (by omega)).trans (cz_13 _)
  have c7 : (HZ H0).2.2 14 = _ := (hz_lo h5 (by omega)).trans (cz_14 _)
  have c8 : (HZ H0).2.2 15 = _ := (hz_lo h5 (by omega)).trans (cz_15 _)
  have c9 : (HZ H0).2.2 16 = _ := (hz_lo h5 (by omega)).trans (cz_16 _)
  have c10 : (HZ H0).2.2 17 = _ := (hz_lo h5 (by omega)).trans (cz_17 _)
  refine Or.inl ⟨rfl, fun j hj => ⟨fun e => ?_, fun e => ?_, fun e => ?_, fun e => ?_, fun e => ?_, fun e => ?_, fun e => ?_, fun e => ?_⟩⟩
  · subst e
    rw [show 7 + 0 = 7 from rfl, c0]
    exact ⟨rfl, rfl, rfl, rfl, rfl, rfl, rfl, rfl, rfl, rfl, rfl⟩
  · subst e
    rw [show 7 + 4 = 11 from rfl, c4]
    exact ⟨rfl, rfl, fun _ _ => rfl⟩
  · subst e
    rw [show 7 + 5 = 12 from rfl, c5]
    exact ⟨rfl, rfl, fun k hk => absurd hk (Nat.not_lt_zero k)⟩
  · subst e
    rw [show 7 + 6 = 13 from rfl, c6]
    exact ⟨rfl, rfl, fun k hk => absurd hk (Nat.not_lt_zero k)⟩
  · subst e
    rw [show 7 + 7 = 14 from rfl, c7]
    exact ⟨rfl, rfl, fun k hk => absurd hk (Nat.not_lt_zero k)⟩
  · subst e
    rw [show 7 + 8 = 15 from rfl, c8]
    exact ⟨rfl, rfl, fun k hk => absurd hk (Nat.not_lt_zero k)⟩
  · subst e
    rw [show 7 + 9 = 16 from rfl, c9]
    exact ⟨rfl, rfl, fun k hk => absurd hk (Nat.not_lt_zero k)⟩
  · subst e
    rw [show 7 + 10 = 17 from rfl, c10]
    exact ⟨rfl, rfl, fun k hk => absurd hk (Nat.not_lt_zero k)⟩
theorem sim_start (h5 : H0.1 = 5) (hK : ∀ a, a < 5 → H0.2.2 a = K a) (hKO : KOK K) : Sim K gZ rZ xZ (HZ H0) := by
  have z : ∀ k, ¬ k < 0 := Nat.not_lt_zero
  refine ⟨⟨by rw [hz_1 h5]; omega, hKO, fun a ha => (hz_old h5 ha).trans (hK a ha), fun b _ => rfl⟩, ⟨fun p c hr => (no_ref hr).elim, fun a ha => absurd (show (0 : Nat) = 1 from ha) (by decide), fun b hb => absurd (show 4 ≤ 0 from hb) (by decide)⟩, fun b h1 h2 => absurd h2 (by rw [hz_1 h5]; omega), bk_start h5, ⟨fun k hk => absurd hk (z k), fun k hk => absurd hk (z k), fun k hk => absurd hk (z k)⟩, fun k hk => absurd hk (z k), ⟨rfl, fun k hk => absurd hk (z k), rfl, fun k hk => absurd hk (z k)⟩, fun q h1 h2 => ⟨?_, fun _ => rfl⟩, ⟨rfl, fun i hi => ⟨if_pos hi, hi⟩, fun i j _ _ e => e, Nat.zero_le 40, fun k hk => absurd hk (z k)⟩, ⟨rfl, rfl, rfl, rfl⟩⟩
  show (if 18 + q = 5 then (if 2 = 4 then (-1 : Int32) else 0) else if 18 + q = 69 then (if 2 < 40 then nI 2 else 0) else 0) = nI 0
  rw [if_neg (by omega), if_neg (by omega)]
  rfl
theorem inv_start : Inv 0 gZ rZ := by
  have z : ∀ k, ¬ k < 0 := Nat.not_lt_zero
  have kn1 : ∀ k, k < 72 → rZ.2.2.1 94 k = 1 := fun k hk => if_pos hk
  refine ⟨⟨⟨rfl, Nat.zero_le _⟩, ⟨rfl, Nat.zero_le _⟩, ⟨rfl, Nat.zero_le _⟩, ⟨rfl, Nat.zero_le _⟩, ⟨rfl, Nat.zero_le _⟩, ⟨rfl, Nat.zero_le _⟩, ⟨rfl, Nat.zero_le _⟩, ⟨rfl, Nat.zero_le _⟩, ⟨rfl, Nat.zero_le _⟩, ⟨rfl, Nat.le_refl 1, (by decide : (1 : Nat) ≤ 9)⟩, ⟨rfl, Nat.zero_le _⟩, ⟨rfl, Nat.zero_le _⟩⟩, ⟨fun k hk => absurd hk (z k), fun k hk => absurd hk (z k)⟩, ⟨Or.inl rfl, fun _ => ⟨rfl, rfl, rfl, rfl⟩, fun k hk => ⟨rfl, Or.inl (by have : k < 1 := hk; omega)⟩, fun k hk => absurd hk (z k), fun k hk => absurd hk (z k)⟩, fun i hi => ⟨fun _ => ⟨rfl, rfl, rfl, rfl, fun _ _ => rfl, fun k hk => kn1 _ (by omega)⟩, ⟨0, by omega, rfl⟩, fun k hk => ⟨0, Nat.le_refl 0, rfl⟩, fun k hk => Or.inr (kn1 _ (by omega)), kn1 _ (by omega), fun hk => absurd hk (z _)⟩, fun k hk => absurd hk (z k), fun k hk => absurd hk (z k), ⟨fun k hk => absurd hk (z k), fun k hk => absurd hk (z k), fun k hk => absurd hk (z k)⟩, fun k hk => absurd hk (z k), fun k hk => absurd hk (z k), ⟨fun k hk => absurd hk (z k), fun c hc w hw => ⟨fun _ => ⟨rfl, rfl, rfl⟩, fun _ hk => absurd hk (z c), fun hk => absurd hk (z c)⟩⟩⟩
theorem msg_start : Msg 0 gZ rZ := by
  have z : ∀ k, ¬ k < 0 := Nat.not_lt_zero
  exact ⟨fun k hk => absurd hk (z k), ⟨fun j p _ _ => ⟨rfl, Nat.zero_le _⟩, fun k hk => absurd hk (z k)⟩, fun k hk => absurd hk (z k), fun k hk => absurd hk (z k), fun k hk => absurd hk (z k)⟩
/-- the pure theorem: the law gives 1 on every script -/
theorem pure_all (h5 : H0.1 = 5) (hu : H0.2.1 = 0) (hK : ∀ a, a < 5 → H0.2.2 a = K a) (hKO : KOK K) (hKR : KR K) (hK0 : K 0 = (20, L, fun j => .int (xs j))) (hL : L ≤ 3072) : Go 900 287 0 [.ref 0, mk0, mk0, mk0] [] H0 lwQ := by
  show Go (799 + 101) 287 0 [.ref 0, mk0, mk0, mk0] [] H0 lwQ
  have u := hz_u hu
  rw [x_start h5, ← hz_eq h5]
  exact lw_all hK0 hKR hL 512 0 0 gZ rZ xZ (HZ H0) ⟨sim_start h5 hK hKO, inv_start, msg_start⟩ rfl (by omega) (by omega) (by omega) (by rw [hz_1 h5]; omega) (by omega)
end
