section
variable {K : Nat → pcell} {tb : Nat} {g g' g0 g1 g2 : gS} {r r' r0 v v' : rS} {x x' x0 x1 : xS} {h h' h0 h1 : pheap} {d : Nat} {Q : Option Value → pheap → Prop} {a n k m rc b L n0 p q j t c c2 c3 no A ce T Dn m0 m1 o ll : Nat} {F fs : Nat → Int32} {l l' : List Nat} {s z c0 s0 : Int32} {w u : Int64} {os fc : Nat → Nat} {P G : Nat → Prop}
theorem nil_inv {fc : Nat → Nat} {fs : Nat → Int32} {os : Nat → Nat} (hp : prs fc fs os no F n [] p l = some (q, l')) : p = q ∧ l = l' := by
  cases n with
  | zero => unfold prs at hp; cases hp
  | succ n =>
    unfold prs at hp
    cases hp
    exact ⟨rfl, rfl⟩
/-- a node, where there is no room -/
theorem it_lack (hc : CB K tb g0 x0 h0 b L F n0 j g v x h) (h5 : (h.2.2 b).2.2 5 = .int (nI p)) (h2 : (h.2.2 b).2.2 2 = .int 0) (hF : F p = 253) (hp : p < L) (hrc : rc < (g.2.2.2.2.1 2)) (hn : ¬ (g.1 0 1) < 60) (hl : (g.1 0 1) < n0 + l'.length) : ∃ a g' v' x' h', IC K tb g0 x0 h0 b L F n0 j A Dn c0 s0 l l' q (nI (10 + rc)) g v x h r T P G ce a g' v' x' h' := by
  have hw := hc.1
  have hh := sim_146 hw.1
  obtain ⟨h01, hb0, hb1⟩ := cb_lo hc
  have hrn := (w_rn hw).2
  have hno : ¬ (nI (10 + rc) = 0 ∨ nI (10 + rc) = 1 ∨ nI (10 + rc) = 2 ∨ nI (10 + rc) = 3 ∨ nI (10 + rc) = 4) := by
    have hne : ∀ c : Nat, c < 10 → nI (10 + rc) ≠ nI c := fun c hc y => by
      rw [ni_eq (by omega) (by omega)] at y
      omega
    rintro (y | y | y | y | y)
    · exact hne 0 (by omega) y
    · exact hne 1 (by omega) y
    · exact hne 2 (by omega) y
    · exact hne 3 (by omega) y
    · exact hne 4 (by omega) y
  have s20 : ¬ (20 : Int32) ≤ nI (10 + rc) := fun y => by
    have y' : nI 20 ≤ nI (10 + rc) := y
    rw [ni_le (by omega) (by omega)] at y'
    omega
  have e10 : nI (10 + rc) - 10 = nI rc := by
    have := ni_sub (a := 10 + rc) (b := 10) (by omega)
    rw [show 10 + rc - 10 = rc by omega] at this
    exact this
  have hc1 := cb_at hc (k := 5) (Or.inr rfl) (nI (p + 1))
  obtain ⟨hc2, run⟩ := x_rnL hc1 hrc hn
  have hrun : ∀ d r0 Q, Go (d + 3) 146 0 [.ref b, .int (nI (10 + rc) - 10), .ref (x.2 0), .ref 20, mk0, mk0, mk0] [] (putR r0 (putX x (hset h b 5 (.int (nI (p + 1)))))) Q = Q (some (.int (-1))) (putR r0 (putX x (hset (hset h b 5 (.int (nI (p + 1)))) b 2 (.int 1)))) := by
    rw [e10]
    exact run
  have hb2 : ((hset (hset h b 5 (.int (nI (p + 1)))) b 2 (.int 1)).2.2 b).2.2 2 = .int 1 := by
    rw [hs_s]
    dsimp only
    rw [uv_s]
  have eH : (hset (hset h b 5 (.int (nI (p + 1)))) b 2 (.int 1)).1 = h.1 := rfl
  have eU : (hset (hset h b 5 (.int (nI (p + 1)))) b 2 (.int 1)).2.1 = h.2.1 := rfl
  have rr := fun d r0 Q => x_rvD (d := d) (r0 := r0) (Q := Q) (x' := x) (i := -1) (h' := hset (hset h b 5 (.int (nI (p + 1)))) b 2 (.int 1)) hc h5 h2 hno s20 hF hp (by rw [eH]; exact hh) (hrun d r0)
  clear run hrun
  generalize hset (hset h b 5 (.int (nI (p + 1)))) b 2 (.int 1) = H at *
  rw [eH] at rr
  have hc3 := cb_val (s := nI (10 + rc)) (v := (-1 : Int32).toInt64) (t := 0) hc2 (fun y => absurd rfl y)
  rw [eH] at hc3
  have hva : (gW g h.1 (nI (10 + rc)) (-1 : Int32).toInt64 0).2.1 h.1 = (nI (10 + rc), (-1 : Int32).toInt64, 0) := gP_va
  have hfr : FRv (gW g h.1 (nI (10 + rc)) (-1 : Int32).toInt64 0) g h.1 := fun a ha _ => ⟨gP_rn (by omega), gP_vn (by omega), gP_an (by omega)⟩
  have e1 : (-1 : Int32).toInt64 = -1 := by decide
  refine ⟨h.1, _, _, _, _, hc3, ⟨hh, by rw [mkV_1, eH]; exact Nat.lt_succ_self _, gP_ro⟩, by rw [hva], gsm_r, hfr, ⟨by rw [mkV_1, eH]; exact Nat.le_succ _, Nat.le_refl _⟩, ⟨Nat.le_refl _, Nat.le_of_lt hl⟩, ⟨?_, ?_⟩, ⟨rfl, vw_r⟩, fun d r0 Q hd => ?_, Or.inl ⟨?_, by omega, _, hva, ?_⟩⟩
  · rw [mkV_1, eH]
    show h.1 + 1 + 21 * (g.1 0 1) ≤ h.1 + 2 + 21 * (g.1 0 1)
    omega
  · rw [mkV_u, eU]
    show h.2.1 + 3 + 240 * (g.1 0 1) ≤ h.2.1 + 19 + 240 * (g.1 0 1)
    omega
  · obtain ⟨d', rfl⟩ : ∃ d', d = d' + 4 := ⟨d - 4, by omega⟩
    exact rr d' r0 Q
  · rw [mkV_o (by rw [eH]; omega)]
    exact hb2
  · rw [e1]
    refine ⟨fun y => absurd (Or.inl y) hno, fun y => absurd (Or.inr (Or.inr (Or.inr (Or.inl y)))) hno, fun _ _ _ => Or.inl rfl, fun _ _ _ => Or.inl rfl⟩
end
