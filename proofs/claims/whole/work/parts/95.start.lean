theorem rsv_eq : ∀ j, j < 9 → rsv j = rsW j := by decide +kernel
theorem h0_kok (xs : Nat → Int32) (L : Nat) : KOK (h0 xs L).2.2 := ⟨rfl, rfl, rfl, rfl, rfl, rfl, rfl⟩
theorem h0_kr (xs : Nat → Int32) (L : Nat) : KR (h0 xs L).2.2 := ⟨rfl, rfl, fun j hj => congrArg Value.long (rsv_eq j hj)⟩
theorem whole_start {p : Program} {e : Env} {s : State} {m : MethodId} {below : List Frame} {meth : Method} {c : Code} (l : Launch) {b L : Nat} {xs : Nat → Int32} (hbd : L ≤ 3072) (C0 : lw_At p s m meth c b L xs) :
    W p l e room_1 s m #[Value.ref b] below meth c s.heap [] 0 0 (lw_Z below #[Value.ref b] s) (entryFrame m ([Value.ref b] : List Value).toArray 4) := by
  obtain ⟨n, r, hE, hx, h1, h2, h3⟩ := pure_all (H0 := h0 xs L) (K := (h0 xs L).2.2) (L := L) (xs := xs) rfl rfl (fun _ _ => rfl) (h0_kok xs L) (h0_kr xs L) rfl hbd
  subst h1
  exact law_of l C0 (d := 900) (Nat.le_refl _) hx h2 h3
