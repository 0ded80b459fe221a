/-- every item is read in step -/
theorem item_all {K : Nat → pcell} {tb : Nat} {g0 : gS} {x0 : xS} {h0 : pheap} {b L : Nat} {F : Nat → Int32} {n0 j A Dn : Nat} {c0 s0 : Int32} (hD : Dn < 8) : ∀ t, ITEM K tb g0 x0 h0 b L F n0 j A Dn c0 s0 t := fun t => by
  induction t with
  | zero =>
    intro g v x h s l l' p q n r T P G ce hqt hc h5 h2 hn hl hs hp hqL hl12 hR
    have hF : ∀ k, k < L → isB (F k) := fun k hk => (hc.2.1.2.2.2.2.2.2.2.2 k hk).2
    cases n with
    | zero => unfold prs at hp; cases hp
    | succ n =>
      rcases is_inv (n0 := n0) hp hF hqL with ⟨q1, w, z, y1, y2, y3, y4⟩ | ⟨-, -, -, -, -, y⟩
      · have y2' : q1 ≤ q := y2
        omega
      · have := prs_le _ _ _ _ _ _ y
        omega
  | succ t ih =>
    intro g v x h s l l' p q n r T P G ce hqt hc h5 h2 hn hl hs hp hqL hl12 hR
    have hF : ∀ k, k < L → isB (F k) := fun k hk => (hc.2.1.2.2.2.2.2.2.2.2 k hk).2
    cases n with
    | zero => unfold prs at hp; cases hp
    | succ n =>
      rcases is_inv (n0 := n0) hp hF hqL with ⟨q1, w, z, y1, y2, y3, y4⟩ | ⟨hno, h20, y1, y2, y3, y⟩
      · obtain ⟨rfl, rfl⟩ := nil_inv y4
        exact it_is hc h5 h2 y3 hqL hs hn hl hl12 hD hR
      · have hrn := (w_rn hc.1).2
        have hsn := (w_sn hc.1).2
        obtain ⟨rc, hrc, rfl⟩ : ∃ k, k < (g.2.2.2.2.1 2) ∧ s = nI (10 + k) := by
          rcases srt_cases hs hno hrn hsn with ⟨y, -⟩ | ⟨-, y⟩
          · exact absurd y h20
          · exact y
        have e10 : nI (10 + rc) - 10 = nI rc := by
          have := ni_sub (a := 10 + rc) (b := 10) (by omega)
          rw [show 10 + rc - 10 = rc by omega] at this
          exact this
        rw [e10, ni_clamp (show rc < 2147483648 by omega), List.append_nil] at y
        have ll := prs_len _ _ _ _ _ _ y
        rw [List.length_append, List.length_singleton] at ll
        by_cases hn60 : (g.1 0 1) < 60
        · exact it_node ih hc h5 h2 y1 y3 hrc hn60 hn hl y2 y (by omega) hqL hR
        · exact it_lack hc h5 h2 y1 y3 hrc hn60 (by omega)
