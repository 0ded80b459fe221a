/-! the law's loop -/
section
variable {K : Nat → pcell} {tb d L i : Nat} {g : gS} {r : rS} {x : xS} {h : pheap} {xs : Nat → Int32}
theorem w_c0 (hw : World K tb g r x h) : (putR r (putX x h)).2.2 0 = K 0 := hw.1.1.2.2.1 0 (by omega)
theorem w_n146 (hw : World K tb g r x h) : 146 ≤ (putR r (putX x h)).1 := hw.1.1.1
theorem fin_i {kx km p1 p2 p3 : Nat} {lx lm : List Value} {Q : Option Value → pheap → Prop} (hw : World K tb g r x h) (hK0 : K 0 = (20, L, fun j => .int (xs j))) (hR : mR kx = some .int) (hS : Same K tb r x h kx lx km lm)
    (e1 : ∀ d (H : pheap) Q, H.2.2 0 = (20, L, fun j => .int (xs j)) → 146 ≤ H.1 → (H.2.2 5).1 = 12 → Go (d + 101) 287 p1 [.ref 0, .ref 5, .ref 73, .int (nI i)] [] H Q = Go (d + 100) kx 0 lx [] H (fun v H => Go (d + 101) 287 p2 [.ref 0, .ref 5, .ref 73, .int (nI i)] (v.toList ++ []) H Q))
    (e2 : ∀ d (H : pheap) Q (z : Int32), H.2.2 0 = (20, L, fun j => .int (xs j)) → 146 ≤ H.1 → (H.2.2 73).1 = 13 → Go (d + 101) 287 p2 [.ref 0, .ref 5, .ref 73, .int (nI i)] [.int z] H Q = Go (d + 100) km 0 lm [] H (fun v H => Go (d + 101) 287 p3 [.ref 0, .ref 5, .ref 73, .int (nI i)] (v.toList ++ [.int z]) H Q))
    (e3 : ∀ d (H : pheap) Q (z : Int32), Go (d + 101) 287 p3 [.ref 0, .ref 5, .ref 73, .int (nI i)] [.int z, .int z] H Q = Go (d + 101) 287 18 [.ref 0, .ref 5, .ref 73, .int (nI (i + 6))] [] H Q)
    (go : ∀ H', Aft K tb h H' → Go (d + 101) 287 18 [.ref 0, .ref 5, .ref 73, .int (nI (i + 6))] [] H' Q) :
    Go (d + 101) 287 p1 [.ref 0, .ref 5, .ref 73, .int (nI i)] [] (putR r (putX x h)) Q := by
  rw [e1 d _ Q ((w_c0 hw).trans hK0) (w_n146 hw) rfl]
  refine go_mono (go_int hR (hS d)) ?_
  rintro v H ⟨⟨z, rfl⟩, ⟨a1, a2⟩, a3, a4⟩
  show Go (d + 101) 287 p2 [.ref 0, .ref 5, .ref 73, .int (nI i)] [.int z] H Q
  rw [e2 d H Q z (a1.trans hK0) a3 a2]
  refine go_mono a4 ?_
  rintro w H' ⟨rfl, a5⟩
  show Go (d + 101) 287 p3 [.ref 0, .ref 5, .ref 73, .int (nI i)] [.int z, .int z] H' Q
  rw [e3]
  exact go H' a5
theorem fin_l {kx km p1 p2 p3 : Nat} {lx lm : List Value} {Q : Option Value → pheap → Prop} (hw : World K tb g r x h) (hK0 : K 0 = (20, L, fun j => .int (xs j))) (hR : mR kx = some .long) (hS : Same K tb r x h kx lx km lm)
    (e1 : ∀ d (H : pheap) Q, H.2.2 0 = (20, L, fun j => .int (xs j)) → 146 ≤ H.1 → (H.2.2 5).1 = 12 → Go (d + 101) 287 p1 [.ref 0, .ref 5, .ref 73, .int (nI i)] [] H Q = Go (d + 100) kx 0 lx [] H (fun v H => Go (d + 101) 287 p2 [.ref 0, .ref 5, .ref 73, .int (nI i)] (v.toList ++ []) H Q))
    (e2 : ∀ d (H : pheap) Q (z : Int64), H.2.2 0 = (20, L, fun j => .int (xs j)) → 146 ≤ H.1 → (H.2.2 73).1 = 13 → Go (d + 101) 287 p2 [.ref 0, .ref 5, .ref 73, .int (nI i)] [.long z] H Q = Go (d + 100) km 0 lm [] H (fun v H => Go (d + 101) 287 p3 [.ref 0, .ref 5, .ref 73, .int (nI i)] (v.toList ++ [.long z]) H Q))
    (e3 : ∀ d (H : pheap) Q (z : Int64), Go (d + 101) 287 p3 [.ref 0, .ref 5, .ref 73, .int (nI i)] [.long z, .long z] H Q = Go (d + 101) 287 18 [.ref 0, .ref 5, .ref 73, .int (nI (i + 6))] [] H Q)
    (go : ∀ H', Aft K tb h H' → Go (d + 101) 287 18 [.ref 0, .ref 5, .ref 73, .int (nI (i + 6))] [] H' Q) :
    Go (d + 101) 287 p1 [.ref 0, .ref 5, .ref 73, .int (nI i)] [] (putR r (putX x h)) Q := by
  rw [e1 d _ Q ((w_c0 hw).trans hK0) (w_n146 hw) rfl]
  refine go_mono (go_long hR (hS d)) ?_
  rintro v H ⟨⟨z, rfl⟩, ⟨a1, a2⟩, a3, a4⟩
  show Go (d + 101) 287 p2 [.ref 0, .ref 5, .ref 73, .int (nI i)] [.long z] H Q
  rw [e2 d H Q z (a1.trans hK0) a3 a2]
  refine go_mono a4 ?_
  rintro w H' ⟨rfl, a5⟩
  show Go (d + 101) 287 p3 [.ref 0, .ref 5, .ref 73, .int (nI i)] [.long z, .long z] H' Q
  rw [e3]
  exact go H' a5
def lwQ (v : Option Value) (hE : pheap) : Prop := v = some (.int 1) ∧ hE.1 ≤ 600005 ∧ hE.2.1 ≤ 7302250
/-- one call -/
theorem lw_one {Q : Option Value → pheap → Prop} (hw : World K tb g r x h) (hK0 : K 0 = (20, L, fun j => .int (xs j))) (hKR : KR K) (hL : L ≤ 3072) (hi : i + 6 ≤ L) (he : tb % 2 = 0) (htb : tb ≤ 1000000) (go : ∀ H', (H' = putR r (putX x h) ∨ Aft K tb h H') → Go (d + 101) 287 18 [.ref 0, .ref 5, .ref 73, .int (nI (i + 6))] [] H' Q) : Go (d + 101) 287 33 [.ref 0, .ref 5, .ref 73, .int (nI i)] [.int (xs i &&& 63)] (putR r (putX x h)) Q := by
  have go2 := fun H' hA => go H' (Or.inr hA)
  rw [e_287_33]
  by_cases c0 : (xs i &&& 63) = 0
  · obtain ⟨v1, v2, v3, v4, v5, e1, e2, e3⟩ := lw_0 (xs := xs) hi hL
    rw [if_pos c0]
    exact fin_i hw hK0 (by decide +kernel) (t_feed hw v1 v2 v3 v4 v5) e1 e2 e3 go2
  rw [if_neg c0]
  by_cases c1 : (xs i &&& 63) = 1
  · obtain ⟨v1, e1, e2, e3⟩ := lw_1 (xs := xs) hi hL
    rw [if_pos c1]
    exact fin_i hw hK0 (by decide +kernel) (t_cut hw v1) e1 e2 e3 go2
  rw [if_neg c1]
  by_cases c2 : (xs i &&& 63) = 2
  · obtain ⟨e1, e2, e3⟩ := lw_2 (xs := xs) hi hL
    rw [if_pos c2]
    exact fin_i hw hK0 (by decide +kernel) (t_describe hw hKR) e1 e2 e3 go2
  rw [if_neg c2]
  by_cases c3 : (xs i &&& 63) = 3
  · obtain ⟨e1, e2, e3⟩ := lw_3 (xs := xs) hi hL
    rw [if_pos c3]
    exact fin_i hw hK0 (by decide +kernel) (t_place hw) e1 e2 e3 go2
  rw [if_neg c3]
  by_cases c4 : (xs i &&& 63) = 4
  · obtain ⟨v1, e1, e2, e3⟩ := lw_4 (xs := xs) hi hL
    rw [if_pos c4]
    exact fin_i hw hK0 (by decide +kernel) (t_count hw v1) e1 e2 e3 go2
  rw [if_neg c4]
  by_cases c5 : (xs i &&& 63) = 5
  · obtain ⟨v1, e1, e2, e3⟩ := lw_5 (xs := xs) hi hL
    rw [if_pos c5]
    exact fin_i hw hK0 (by decide +kernel) (t_node hw v1) e1 e2 e3 go2
  rw [if_neg c5]
  by_cases c6 : (xs i &&& 63) = 6
  · obtain ⟨v1, v2, v3, e1, e2, e3⟩ := lw_6 (xs := xs) hi hL
    rw [if_pos c6]
    exact fin_i hw hK0 (by decide +kernel) (t_setF hw v1 v2 v3) e1 e2 e3 go2
  rw [if_neg c6]
  by_cases c7 : (xs i &&& 63) = 7
  · obtain ⟨v1, v2, e1, e2, e3⟩ := lw_7 (xs := xs) hi hL
    rw [if_pos c7]
    exact fin_l hw hK0 (by decide +kernel) (t_field hw v1 v2) e1 e2 e3 go2
  rw [if_neg c7]
  by_cases c8 : (xs i &&& 63) = 8
  · obtain ⟨v1, v2, v3, e1, e2, e3⟩ := lw_8 (xs := xs) hi hL
    rw [if_pos c8]
    exact fin_i hw hK0 (by decide +kernel) (t_letterAt hw v1 v2 v3) e1 e2 e3 go2
  rw [if_neg c8]
  by_cases c9 : (xs i &&& 63) = 9
  · obtain ⟨v1, e1, e2, e3⟩ := lw_9 (xs := xs) hi hL
    rw [if_pos c9]
    exact fin_i hw hK0 (by decide +kernel) (t_letter hw v1) e1 e2 e3 go2
  rw [if_neg c9]
  by_cases c10 : (xs i &&& 63) = 10
  · obtain ⟨v1, v2, e1, e2, e3⟩ := lw_10 (xs := xs) hi hL
    rw [if_pos c10]
    exact fin_i hw hK0 (by decide +kernel) (t_hand hw v1 v2) e1 e2 e3 go2
  rw [if_neg c10]
  by_cases c11 : (xs i &&& 63) = 11
  · obtain ⟨e1, e2, e3⟩ := lw_11 (xs := xs) hi hL
    rw [if_pos c11]
    exact fin_i hw hK0 (by decide +kernel) (t_open hw) e1 e2 e3 go2
  rw [if_neg c11]
  by_cases c12 : (xs i &&& 63) = 12
  · obtain ⟨e1, e2, e3⟩ := lw_12 (xs := xs) hi hL
    rw [if_pos c12]
    exact fin_i hw hK0 (by decide +kernel) (t_desk hw) e1 e2 e3 go2
  rw [if_neg c12]
  by_cases c13 : (xs i &&& 63) = 13
  · obtain ⟨v1, v2, v3, v4, v5, e1, e2, e3⟩ := lw_13 (xs := xs) hi hL
    rw [if_pos c13]
    exact fin_i hw hK0 (by decide +kernel) (t_object hw v1 v2 v3 v4 v5) e1 e2 e3 go2
  rw [if_neg c13]
  by_cases c14 : (xs i &&& 63) = 14
  · obtain ⟨v1, v2, v3, e1, e2, e3⟩ := lw_14 (xs := xs) hi hL
    rw [if_pos c14]
    exact fin_i hw hK0 (by decide +kernel) (t_failure hw v1 v2 v3) e1 e2 e3 go2
  rw [if_neg c14]
  by_cases c15 : (xs i &&& 63) = 15
  · obtain ⟨v1, v2, e1, e2, e3⟩ := lw_15 (xs := xs) hi hL
    rw [if_pos c15]
    exact fin_i hw hK0 (by decide +kernel) (t_beside hw v1 v2) e1 e2 e3 go2
  rw [if_neg c15]
  by_cases c16 : (xs i &&& 63) = 16
  · obtain ⟨v1, v2, v3, hb, e1, e2, e3⟩ := lw_16 (xs := xs) hi hL
    rw [if_pos c16]
    exact fin_i hw hK0 (by decide +kernel) (t_knows hw v1 v2 v3 hb) e1 e2 e3 go2
  rw [if_neg c16]
  by_cases c17 : (xs i &&& 63) = 17
  · obtain ⟨v1, v2, e1, e2, e3⟩ := lw_17 (xs := xs) hi hL
    rw [if_pos c17]
    exact fin_i hw hK0 (by decide +kernel) (t_give hw v1 v2) e1 e2 e3 go2
  rw [if_neg c17]
  by_cases c18 : (xs i &&& 63) = 18
  · obtain ⟨v1, v2, e1, e2, e3⟩ := lw_18 (xs := xs) hi hL
    rw [if_pos c18]
    exact fin_i hw hK0 (by decide +kernel) (t_release hw v1 v2) e1 e2 e3 go2
  rw [if_neg c18]
  by_cases c19 : (xs i &&& 63) = 19
  · obtain ⟨v1, v2, e1, e2, e3⟩ := lw_19 (xs := xs) hi hL
    rw [if_pos c19]
    exact fin_i hw hK0 (by decide +kernel) (t_reference hw v1 v2) e1 e2 e3 go2
  rw [if_neg c19]
  by_cases c20 : (xs i &&& 63) = 20
  · obtain ⟨v1, v2, e1, e2, e3⟩ := lw_20 (xs := xs) hi hL
    rw [if_pos c20]
    exact fin_i hw hK0 (by decide +kernel) (t_told hw v1 v2) e1 e2 e3 go2
  rw [if_neg c20]
  by_cases c21 : (xs i &&& 63) = 21
  · obtain ⟨v1, v2, v3, e1, e2, e3⟩ := lw_21 (xs := xs) hi hL
    rw [if_pos c21]
    exact fin_i hw hK0 (by decide +kernel) (t_call hw v1 v2 v3) e1 e2 e3 go2
  rw [if_neg c21]
  by_cases c22 : (xs i &&& 63) = 22
  · obtain ⟨v1, e1, e2, e3⟩ := lw_22 (xs := xs) hi hL
    rw [if_pos c22]
    exact fin_i hw hK0 (by decide +kernel) (t_state hw v1) e1 e2 e3 go2
  rw [if_neg c22]
  by_cases c23 : (xs i &&& 63) = 23
  · obtain ⟨v1, e1, e2, e3⟩ := lw_23 (xs := xs) hi hL
    rw [if_pos c23]
    exact fin_l hw hK0 (by decide +kernel) (t_value hw v1) e1 e2 e3 go2
  rw [if_neg c23]
  by_cases c24 : (xs i &&& 63) = 24
  · obtain ⟨v1, v2, e1, e2, e3⟩ := lw_24 (xs := xs) hi hL
    rw [if_pos c24]
    exact fin_i hw hK0 (by decide +kernel) (t_letterOf hw v1 v2) e1 e2 e3 go2
  rw [if_neg c24]
  by_cases c25 : (xs i &&& 63) = 25
  · obtain ⟨v1, v2, v3, e1, e2, e3⟩ := lw_25 (xs := xs) hi hL
    rw [if_pos c25]
    exact fin_i hw hK0 (by decide +kernel) (t_tree hw v1 v2 v3) e1 e2 e3 go2
  rw [if_neg c25]
  by_cases c26 : (xs i &&& 63) = 26
  · obtain ⟨v1, v2, e1, e2, e3⟩ := lw_26 (xs := xs) hi hL
    rw [if_pos c26]
    exact fin_i hw hK0 (by decide +kernel) (t_about hw v1 v2) e1 e2 e3 go2
  rw [if_neg c26]
  by_cases c27 : (xs i &&& 63) = 27
  · obtain ⟨v1, v2, e1, e2, e3⟩ := lw_27 (xs := xs) hi hL
    rw [if_pos c27]
    exact fin_i hw hK0 (by decide +kernel) (t_slot hw v1 v2) e1 e2 e3 go2
  rw [if_neg c27]
  by_cases c28 : (xs i &&& 63) = 28
  · obtain ⟨v1, e1, e2, e3⟩ := lw_28 (xs := xs) hi hL
    rw [if_pos c28]
    exact fin_i hw hK0 (by decide +kernel) (t_through hw htb v1) e1 e2 e3 go2
  rw [if_neg c28]
  by_cases c29 : (xs i &&& 63) = 29
  · obtain ⟨v1, e1, e2, e3⟩ := lw_29 (xs := xs) hi hL
    rw [if_pos c29]
    exact fin_i hw hK0 (by decide +kernel) (t_lose hw v1) e1 e2 e3 go2
  rw [if_neg c29]
  by_cases c30 : (xs i &&& 63) = 30
  · obtain ⟨v1, e1, e2, e3⟩ := lw_30 (xs := xs) hi hL
    rw [if_pos c30]
    exact fin_i hw hK0 (by decide +kernel) (t_twice hw v1) e1 e2 e3 go2
  rw [if_neg c30]
  by_cases c31 : (xs i &&& 63) = 31
  · obtain ⟨v1, e1, e2, e3⟩ := lw_31 (xs := xs) hi hL
    rw [if_pos c31]
    exact fin_i hw hK0 (by decide +kernel) (t_tick hw he v1) e1 e2 e3 go2
  rw [if_neg c31]
  by_cases c32 : (xs i &&& 63) = 32
  · obtain ⟨v1, e1, e2, e3⟩ := lw_32 (xs := xs) hi hL
    rw [if_pos c32]
    exact fin_i hw hK0 (by decide +kernel) (t_restart hw v1) e1 e2 e3 go2
  rw [if_neg c32]
  by_cases c33 : (xs i &&& 63) = 33
  · obtain ⟨v1, v2, e1, e2, e3⟩ := lw_33 (xs := xs) hi hL
    rw [if_pos c33]
    exact fin_i hw hK0 (by decide +kernel) (t_audit hw v1 v2) e1 e2 e3 go2
  rw [if_neg c33]
  by_cases c34 : (xs i &&& 63) = 34
  · obtain ⟨v1, v2, v3, e1, e2, e3⟩ := lw_34 (xs := xs) hi hL
    rw [if_pos c34]
    exact fin_i hw hK0 (by decide +kernel) (t_supply hw htb v1 v2 v3) e1 e2 e3 go2
  rw [if_neg c34]
  by_cases c35 : (xs i &&& 63) = 35
  · obtain ⟨v1, v2, v3, v4, e1, e2, e3⟩ := lw_35 (xs := xs) hi hL
    rw [if_pos c35]
    exact fin_i hw hK0 (by decide +kernel) (t_carry hw htb v1 v2 v3 v4) e1 e2 e3 go2
  rw [if_neg c35]
  by_cases c36 : (xs i &&& 63) = 36
  · obtain ⟨v1, v2, e1, e2, e3⟩ := lw_36 (xs := xs) hi hL
    rw [if_pos c36]
    exact fin_i hw hK0 (by decide +kernel) (t_stock hw v1 v2) e1 e2 e3 go2
  rw [if_neg c36]
  rw [lw_no]
  exact go _ (Or.inl rfl)
/-- every script -/
theorem lw_all (hK0 : K 0 = (20, L, fun j => .int (xs j))) (hKR : KR K) (hL : L ≤ 3072) : ∀ (n tb i : Nat) (g : gS) (r : rS) (x : xS) (h : pheap), World K tb g r x h → tb % 2 = 0 → tb + 1000 * n ≤ 1000000 → L ≤ i + 6 * n + 5 → i ≤ L → h.1 + 1100 * n ≤ 600005 → h.2.1 + 14000 * n ≤ 7302250 → Go (d + 101) 287 18 [.ref 0, .ref 5, .ref 73, .int (nI i)] [] (putR r (putX x h)) lwQ
  | 0, tb, i, g, r, x, h, hw, he, ht, h1, h2, h3, h4 => by
    rw [lw_end ((w_c0 hw).trans hK0) (w_n146 hw) hL (by omega) (by omega)]
    exact ⟨rfl, h3, h4⟩
  | n + 1, tb, i, g, r, x, h, hw, he, ht, h1, h2, h3, h4 => by
    by_cases hl : L < i + 6
    · rw [lw_end ((w_c0 hw).trans hK0) (w_n146 hw) hL (by omega) hl]
      exact ⟨rfl, (by show h.1 ≤ 600005; omega), (by show h.2.1 ≤ 7302250; omega)⟩
    · rw [lw_go ((w_c0 hw).trans hK0) (w_n146 hw) hL (by omega)]
      refine lw_one hw hK0 hKR hL (by omega) he (by omega) fun H' hA => ?_
      rcases hA with rfl | ⟨g', r', x', h', rfl, hw', a1, a2⟩
      · exact lw_all hK0 hKR hL n tb (i + 6) g r x h hw he (by omega) (by omega) (by omega) (by omega) (by omega)
      · exact lw_all hK0 hKR hL n (tb + 1000) (i + 6) g' r' x' h' hw' (by omega) (by omega) (by omega) (by omega) (by omega) (by omega)
end
