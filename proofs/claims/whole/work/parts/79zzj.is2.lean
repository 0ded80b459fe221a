section
variable {K : Nat → pcell} {tb : Nat} {g g' g0 g1 : gS} {r r' r0 v : rS} {x x' x0 x1 : xS} {h h' h0 h1 : pheap} {d : Nat} {Q : Option Value → pheap → Prop} {a n k m rc b L n0 p q j t c c2 c3 no : Nat} {F fs : Nat → Int32} {l : List Nat} {s z : Int32} {w : Int64} {os fc : Nat → Nat}
/-- an item without a node: from p to q, the number w, the length z -/
def IS (no : Nat) (os : Nat → Nat) (F : Nat → Int32) (n0 : Nat) (l : List Nat) (s : Int32) (p q : Nat) (w : Int64) (z : Int32) : Prop :=
  (s = 0 ∧ q = p + 4 ∧ w = (nb F 4 p 0).toInt32.toInt64 ∧ z = -1) ∨ ((s = 1 ∨ s = 2) ∧ q = p + 8 ∧ w = nb F 8 p 0 ∧ z = -1) ∨
  (s = 3 ∧ (F p = 0 ∨ F p = 1) ∧ q = p + 1 ∧ w = (F p).toInt64 ∧ z = -1) ∨ (s = 4 ∧ F p = 255 ∧ q = p + 1 ∧ w = -1 ∧ z = -1) ∨
  (s = 4 ∧ ∃ m, F p = nI m ∧ m ≤ 16 ∧ q = p + 1 + m ∧ w = 0 ∧ z = nI m) ∨
  ((¬ (s = 0 ∨ s = 1 ∨ s = 2 ∨ s = 3 ∨ s = 4)) ∧ ((F p = 255 ∧ q = p + 1 ∧ w = -1 ∧ z = -1) ∨
   (20 ≤ s ∧ F p ≠ 255 ∧ ∃ o, F p = nI o ∧ o < no ∧ s = nI (20 + os o) ∧ q = p + 1 ∧ w = (nI o).toInt64 ∧ z = -1) ∨
   (¬ 20 ≤ s ∧ F p = 254 ∧ ∃ m, F (p + 1) = nI m ∧ m < 256 ∧ l[m]? = some (s - 10).toNatClampNeg ∧ q = p + 2 ∧ w = (nI (n0 + m)).toInt64 ∧ z = -1)))
theorem is_inv {t : List Int32} {res : Nat × List Nat} (hp : prs fc fs os no F (n + 1) (s :: t) p l = some res) (hF : ∀ k, k < L → isB (F k)) (hL : res.1 ≤ L) : (∃ q w z, p < q ∧ q ≤ res.1 ∧ IS no os F n0 l s p q w z ∧ prs fc fs os no F n t q l = some res) ∨ ((¬ (s = 0 ∨ s = 1 ∨ s = 2 ∨ s = 3 ∨ s = 4)) ∧ ¬ 20 ≤ s ∧ F p = 253 ∧ l.length < 12 ∧ p < L ∧ prs fc fs os no F n (fsL fc fs (s - 10).toNatClampNeg ++ t) (p + 1) (l ++ [(s - 10).toNatClampNeg]) = some res) := by
  obtain ⟨q', l'⟩ := res
  have hL' : q' ≤ L := hL
  have hi := prs_inv hp
  unfold PI at hi
  unfold IS
  rcases hi with ⟨h0, h⟩ | ⟨h1, h⟩ | ⟨h3, hb3, h⟩ | ⟨h4, hb4, h⟩ | ⟨h4, hb4, hc4, h⟩ | ⟨hno, h⟩
  · exact Or.inl ⟨p + 4, _, _, by omega, prs_le _ _ _ _ _ _ h, Or.inl ⟨h0, rfl, rfl, rfl⟩, h⟩
  · exact Or.inl ⟨p + 8, _, _, by omega, prs_le _ _ _ _ _ _ h, Or.inr (Or.inl ⟨h1, rfl, rfl, rfl⟩), h⟩
  · exact Or.inl ⟨p + 1, _, _, by omega, prs_le _ _ _ _ _ _ h, Or.inr (Or.inr (Or.inl ⟨h3, hb3, rfl, rfl, rfl⟩)), h⟩
  · exact Or.inl ⟨p + 1, _, _, by omega, prs_le _ _ _ _ _ _ h, Or.inr (Or.inr (Or.inr (Or.inl ⟨h4, hb4, rfl, rfl, rfl⟩))), h⟩
  · have hpq := prs_le _ _ _ _ _ _ h
    obtain ⟨m, m1, m2, m3⟩ := isB_c (hF p (by omega))
    rw [m3] at h hpq
    have hm16 : m ≤ 16 := by
      rw [m2] at hc4
      exact (ni_leL (k := m) (c := 16) (by omega) (by decide)).mp hc4
    exact Or.inl ⟨p + 1 + m, _, _, by omega, hpq, Or.inr (Or.inr (Or.inr (Or.inr (Or.inl ⟨h4, m, m2, hm16, rfl, rfl, rfl⟩)))), h⟩
  · rcases h with ⟨h20, hb, h⟩ | ⟨h20, hb, hc, hd, h⟩ | ⟨h20, hb, h⟩ | ⟨h20, hb, hc, hd, h⟩ | ⟨h20, hb', hc, hd, he, h⟩
    · exact Or.inl ⟨p + 1, _, _, by omega, prs_le _ _ _ _ _ _ h, Or.inr (Or.inr (Or.inr (Or.inr (Or.inr ⟨hno, Or.inl ⟨hb, rfl, rfl, rfl⟩⟩)))), h⟩
    · have hpq := prs_le _ _ _ _ _ _ h
      obtain ⟨m, m1, m2, m3⟩ := isB_c (hF p (by omega))
      rw [m3] at hc hd
      exact Or.inl ⟨p + 1, _, _, by omega, hpq, Or.inr (Or.inr (Or.inr (Or.inr (Or.inr ⟨hno, Or.inr (Or.inl ⟨h20, hb, m, m2, hc, hd, rfl, rfl, rfl⟩)⟩)))), h⟩
    · exact Or.inl ⟨p + 1, _, _, by omega, prs_le _ _ _ _ _ _ h, Or.inr (Or.inr (Or.inr (Or.inr (Or.inr ⟨hno, Or.inl ⟨hb, rfl, rfl, rfl⟩⟩)))), h⟩
    · have hpq := prs_le _ _ _ _ _ _ h
      obtain ⟨m, m1, m2, m3⟩ := isB_c (hF (p + 1) (by omega))
      rw [m3] at hd
      exact Or.inl ⟨p + 2, _, _, by omega, hpq, Or.inr (Or.inr (Or.inr (Or.inr (Or.inr ⟨hno, Or.inr (Or.inr ⟨h20, hc, m, m2, m1, hd, rfl, rfl, rfl⟩)⟩)))), h⟩
    · have hpq := prs_le _ _ _ _ _ _ h
      exact Or.inr ⟨hno, h20, hd, he, by omega, h⟩
/-- what it is worth -/
theorem is_vv (hw : World K tb g r x h) (hi : IS (g.1 0 4) ((g.2.2.2.2.2 13)) F n0 l s p q w z) (hn : n0 + l.length ≤ (g.1 0 1)) (hl : ∀ i rc, l[i]? = some rc → (g.2.2.2.2.2 11) (n0 + i) = rc) : VV (g.1 0 1) (g.1 0 4) ((g.2.2.2.2.2 11)) ((g.2.2.2.2.2 13)) w s := by
  have e10 : ∀ k, k < 6 → (nI (10 + k) = nI 0) = False := fun k hk => by rw [ni_eq (by omega) (by omega)]; exact eq_false (by omega)
  have ee : ∀ a b : Nat, a < 100 → b < 100 → nI a = nI b → a = b := fun a b ha hb e => by rw [ni_eq (by omega) (by omega)] at e; exact e
  have hobj : ∀ o, o < (g.1 0 4) → (g.2.2.2.2.2 13) o < 8 := fun o ho => by
    have h1 := (w_sn hw).2
    have h2 := (w_obj hw o ho)
    omega
  unfold IS at hi
  unfold VV
  rcases hi with ⟨rfl, h1, rfl, h3⟩ | ⟨h0, h1, rfl, h3⟩ | ⟨rfl, h1, h2, rfl, h4⟩ | ⟨rfl, h1, h2, rfl, h4⟩ | ⟨rfl, m, h1, h2, h3, rfl, h5⟩ | ⟨hno, h⟩
  · exact ⟨fun _ => ⟨_, rfl⟩, fun e => absurd e (by decide), fun k hk e => absurd (ee 0 (10 + k) (by omega) (by omega) e) (by omega), fun k hk e => absurd (ee 0 (20 + k) (by omega) (by omega) e) (by omega)⟩
  · rcases h0 with rfl | rfl
    · exact ⟨fun e => absurd e (by decide), fun e => absurd e (by decide), fun k hk e => absurd (ee 1 (10 + k) (by omega) (by omega) e) (by omega), fun k hk e => absurd (ee 1 (20 + k) (by omega) (by omega) e) (by omega)⟩
    · exact ⟨fun e => absurd e (by decide), fun e => absurd e (by decide), fun k hk e => absurd (ee 2 (10 + k) (by omega) (by omega) e) (by omega), fun k hk e => absurd (ee 2 (20 + k) (by omega) (by omega) e) (by omega)⟩
  · refine ⟨fun e => absurd e (by decide), fun e => ?_, fun k hk e => absurd (ee 3 (10 + k) (by omega) (by omega) e) (by omega), fun k hk e => absurd (ee 3 (20 + k) (by omega) (by omega) e) (by omega)⟩
    rcases h1 with y | y
    · left; rw [y]; decide
    · right; rw [y]; decide
  · exact ⟨fun e => absurd e (by decide), fun e => absurd e (by decide), fun k hk e => absurd (ee 4 (10 + k) (by omega) (by omega) e) (by omega), fun k hk e => absurd (ee 4 (20 + k) (by omega) (by omega) e) (by omega)⟩
  · exact ⟨fun e => absurd e (by decide), fun e => absurd e (by decide), fun k hk e => absurd (ee 4 (10 + k) (by omega) (by omega) e) (by omega), fun k hk e => absurd (ee 4 (20 + k) (by omega) (by omega) e) (by omega)⟩
  · refine ⟨fun e => absurd (Or.inl e) hno, fun e => absurd (Or.inr (Or.inr (Or.inr (Or.inl e)))) hno, fun k hk e => ?_, fun k hk e => ?_⟩
    · rcases h with ⟨h1, h2, h3, h4⟩ | ⟨h20, h1, o, h2, h3, h4, h5, h6, h7⟩ | ⟨h20, h1, m, h2, h3, h4, h5, h6, h7⟩
      · exact Or.inl h3
      · have := (w_obj hw o h3).1
        rw [e] at h20
        have h20' : nI 20 ≤ nI (10 + k) := h20
        rw [ni_le (by omega) (by omega)] at h20'
        omega
      · right
        have e1 : nI (10 + k) - 10 = nI k := by
          have := ni_sub (a := 10 + k) (b := 10) (by omega)
          rw [show 10 + k - 10 = k by omega] at this
          exact this
        rw [e, e1, ni_clamp (by omega)] at h4
        have hml : m < l.length := by
          rw [List.getElem?_eq_some_iff] at h4
          exact h4.1
        exact ⟨n0 + m, by omega, hl m k h4, h6⟩
    · rcases h with ⟨h1, h2, h3, h4⟩ | ⟨h20, h1, o, h2, h3, h4, h5, h6, h7⟩ | ⟨h20, h1, m, h2, h3, h4, h5, h6, h7⟩
      · exact Or.inl h3
      · right
        have := hobj o h3
        rw [e, ni_eq (by omega) (by omega)] at h4
        exact ⟨o, h3, by omega, h6⟩
      · refine absurd ?_ h20
        rw [e]
        show nI 20 ≤ nI (20 + k)
        rw [ni_le (by omega) (by omega)]
        omega
end
