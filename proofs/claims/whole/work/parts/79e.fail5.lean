section
variable {K : Nat → pcell} {tb : Nat} {g g' : gS} {r r' r0 : rS} {x x' : xS} {h h' : pheap} {a n k m i j c p q d A M f N : Nat} {Q : Option Value → pheap → Prop} {T : Nat → Nat} {R : Nat → Nat → Int32} {F B : Nat → Int32}
/-- the run from one state of failsAs's loop to another -/
def FS (r : rS) (ff : Int32) (i n : Nat) (Z4 Z5 : Value) (B F : Nat → Int32) (p n' : Nat) (Y4 Y5 : Value) (B' F' : Nat → Int32) (p' : Nat) : Prop := ∀ d (H : pheap) Q, 146 ≤ H.1 → Go (d + 2) 254 20 [.ref 73, .int ff, .int (nI i), .int (nI n), Z4, Z5] [] (putR (fsR r B F p) H) Q = Go (d + 2) 254 20 [.ref 73, .int ff, .int (nI i), .int (nI n'), Y4, Y5] [] (putR (fsR r B' F' p') H) Q
theorem FS_t {ff : Int32} {n1 n2 n3 p1 p2 p3 : Nat} {X4 X5 Y4 Y5 Z4 Z5 : Value} {B1 B2 B3 F1 F2 F3 : Nat → Int32} (h1 : FS r ff i n1 X4 X5 B1 F1 p1 n2 Y4 Y5 B2 F2 p2) (h2 : FS r ff i n2 Y4 Y5 B2 F2 p2 n3 Z4 Z5 B3 F3 p3) : FS r ff i n1 X4 X5 B1 F1 p1 n3 Z4 Z5 B3 F3 p3 := fun d H Q hh => (h1 d H Q hh).trans (h2 d H Q hh)
theorem r_failF (hw : World K tb g r x h') (hf : Fst g) (hT : Tsz g T) {ff : Int32} : ∀ N f, f < N → f < (g.1 0 2) → ∀ n p F B Z4 Z5, n + 2 * f + 3 ≤ 64 → p + T f ≤ 12 → B n = nI f → ∃ B' Y4 Y5, (∀ k, k < n → B' k = B k) ∧ FS r ff i (n + 1) Z4 Z5 B F p n Y4 Y5 B' (WL (rwF g r i) F (720 + p) (fl g N f)) (p + T f)
  | 0, f, h1, _ => absurd h1 (Nat.not_lt_zero f)
  | N + 1, f, h1, hff => fun n p F B Z4 Z5 hn hp hB => by
    obtain ⟨f1, f2, f3⟩ := hf f hff
    have hTf := hT f hff
    have ih := fun f' (h2 : f' < f) n p F B Z4 Z5 (h3 : n + 2 * f' + 3 ≤ 64) (h4 : p + T f' ≤ 12) (h5 : B n = nI f') => r_failF hw hf hT (ff := ff) N f' (by omega) (by omega) n p F B Z4 Z5 h3 h4 h5
    obtain ⟨X4, X5, st⟩ := r_failS (i := i) (F := F) (B := B) (p := p) (n := n) (ff := ff) (Z4 := Z4) (Z5 := Z5) hw hff (by omega) (by omega) hB
    -- the cause
    have hc : ∃ B2 Y4 Y5, (∀ k, k < n + (g.2.2.2.2.2 26) f → B2 k = pBs g f n B k) ∧ FS r ff i (n + (g.2.2.2.2.2 26) f + (if (g.2.2.2.2.2 24) f = 0 then 0 else 1)) X4 X5 (pCs g f n B) (wrF F (rwF g r i f) (5 * (720 + p)) 5) (p + 1) (n + (g.2.2.2.2.2 26) f) Y4 Y5 B2 (WL (rwF g r i) (wrF F (rwF g r i f) (5 * (720 + p)) 5) (720 + (p + 1)) (if (g.2.2.2.2.2 24) f = 0 then [] else fl g N ((g.2.2.2.2.2 24) f - 1))) (p + 1 + (if (g.2.2.2.2.2 24) f = 0 then 0 else T ((g.2.2.2.2.2 24) f - 1))) := by
      unfold pCs
      by_cases hz : (g.2.2.2.2.2 24) f = 0
      · rw [if_pos hz, if_pos hz, if_pos hz, if_pos hz]
        exact ⟨_, X4, X5, fun _ _ => rfl, fun _ _ _ _ => rfl⟩
      · rw [if_neg hz] at hTf
        rw [if_neg hz, if_neg hz, if_neg hz, if_neg hz]
        obtain ⟨B2, Y4, Y5, y1, y2⟩ := ih ((g.2.2.2.2.2 24) f - 1) (by omega) (n + (g.2.2.2.2.2 26) f) (p + 1) (wrF F (rwF g r i f) (5 * (720 + p)) 5) (upN (pBs g f n B) (n + (g.2.2.2.2.2 26) f) (nI ((g.2.2.2.2.2 24) f - 1))) X4 X5 (by omega) (by omega) (upN_s _ _ _)
        exact ⟨B2, Y4, Y5, fun k hk => by rw [y1 k hk, upN_n _ _ (by omega)], y2⟩
    obtain ⟨B2, Y4, Y5, y1, y2⟩ := hc
    have hlc : (if (g.2.2.2.2.2 24) f = 0 then [] else fl g N ((g.2.2.2.2.2 24) f - 1)).length = (if (g.2.2.2.2.2 24) f = 0 then 0 else T ((g.2.2.2.2.2 24) f - 1)) := by
      by_cases hz : (g.2.2.2.2.2 24) f = 0
      · rw [if_pos hz, if_pos hz]; rfl
      · rw [if_neg hz, if_neg hz]
        exact fl_len hf hT N _ (by omega) (by omega)
    have hW : WL (rwF g r i) F (720 + p) (fl g (N + 1) f) = WL (rwF g r i) (WL (rwF g r i) (wrF F (rwF g r i f) (5 * (720 + p)) 5) (720 + (p + 1)) (if (g.2.2.2.2.2 24) f = 0 then [] else fl g N ((g.2.2.2.2.2 24) f - 1))) (720 + (p + 1 + (if (g.2.2.2.2.2 24) f = 0 then 0 else T ((g.2.2.2.2.2 24) f - 1)))) (fbG g (fl g N) f ((g.2.2.2.2.2 26) f)) := by
      show WL (rwF g r i) (wrF F (rwF g r i f) (5 * (720 + p)) 5) (720 + p + 1) (_ ++ _) = _
      rw [WL_a, hlc, Nat.add_assoc 720 p 1, Nat.add_assoc 720 (p + 1)]
    rw [hW]
    generalize hC0 : (if (g.2.2.2.2.2 24) f = 0 then 0 else T ((g.2.2.2.2.2 24) f - 1)) = C at *
    generalize WL (rwF g r i) (wrF F (rwF g r i f) (5 * (720 + p)) 5) (720 + (p + 1)) (if (g.2.2.2.2.2 24) f = 0 then [] else fl g N ((g.2.2.2.2.2 24) f - 1)) = F2 at *
    have hfirst := FS_t (fun d H Q hh => st d H Q hh) y2
    have hpn : ∀ k, k < n → pBs g f n B k = B k := fun k hk => by
      unfold pBs
      by_cases b0 : (g.2.2.2.2.2 26) f = 0
      · rw [if_pos b0]
      · rw [if_neg b0]
        by_cases b1 : (g.2.2.2.2.2 26) f = 1
        · rw [if_pos b1, upN_n _ _ (by omega)]
        · rw [if_neg b1, upN_n _ _ (by omega), upN_n _ _ (by omega)]
    obtain b | b | b : (g.2.2.2.2.2 26) f = 0 ∨ (g.2.2.2.2.2 26) f = 1 ∨ (g.2.2.2.2.2 26) f = 2 := by omega
    · rw [b] at hTf hfirst y1 ⊢
      have e0 : sB g T f 0 = 0 := rfl
      rw [e0] at hTf
      refine ⟨B2, Y4, Y5, fun k hk => by rw [y1 k (by omega)]; exact hpn k hk, ?_⟩
      rw [show p + T f = p + 1 + C by omega]
      exact hfirst
    · rw [b] at hTf hfirst y1 ⊢
      have e1 : sB g T f 1 = 0 + T ((g.2.2.2.2.2 25) (2 * f + 0)) := rfl
      rw [e1] at hTf
      have hl0 := f3 0 (by omega)
      obtain ⟨B3, W4, W5, w1, w2⟩ := ih ((g.2.2.2.2.2 25) (2 * f + 0)) hl0 n (p + 1 + C) F2 B2 Y4 Y5 (by omega) (by omega) (by
        rw [y1 n (by omega)]
        unfold pBs
        rw [if_neg (by omega), if_pos b]
        exact upN_s _ _ _)
      refine ⟨B3, W4, W5, fun k hk => by rw [w1 k hk, y1 k (by omega)]; exact hpn k hk, ?_⟩
      rw [show p + T f = p + 1 + C + T ((g.2.2.2.2.2 25) (2 * f + 0)) by omega]
      exact FS_t hfirst w2
    · rw [b] at hTf hfirst y1 ⊢
      have e2 : sB g T f 2 = 0 + T ((g.2.2.2.2.2 25) (2 * f + 0)) + T ((g.2.2.2.2.2 25) (2 * f + 1)) := rfl
      rw [e2] at hTf
      have hl0 := f3 0 (by omega)
      have hl1 := f3 1 (by omega)
      obtain ⟨B3, W4, W5, w1, w2⟩ := ih ((g.2.2.2.2.2 25) (2 * f + 0)) hl0 (n + 1) (p + 1 + C) F2 B2 Y4 Y5 (by omega) (by omega) (by
        rw [y1 (n + 1) (by omega)]
        unfold pBs
        rw [if_neg (by omega), if_neg (by omega)]
        exact upN_s _ _ _)
      have hlen := fl_len (N := N) (f := (g.2.2.2.2.2 25) (2 * f + 0)) hf hT (by omega) (by omega)
      obtain ⟨B4, V4, V5, v1, v2⟩ := ih ((g.2.2.2.2.2 25) (2 * f + 1)) hl1 n (p + 1 + C + T ((g.2.2.2.2.2 25) (2 * f + 0))) (WL (rwF g r i) F2 (720 + (p + 1 + C)) (fl g N ((g.2.2.2.2.2 25) (2 * f + 0)))) B3 W4 W5 (by omega) (by omega) (by
        rw [w1 n (by omega), y1 n (by omega)]
        unfold pBs
        rw [if_neg (by omega), if_neg (by omega), upN_n _ _ (by omega)]
        exact upN_s _ _ _)
      refine ⟨B4, V4, V5, fun k hk => by rw [v1 k hk, w1 k (by omega), y1 k (by omega)]; exact hpn k hk, ?_⟩
      have hfb : WL (rwF g r i) F2 (720 + (p + 1 + C)) (fbG g (fl g N) f 2) = WL (rwF g r i) (WL (rwF g r i) F2 (720 + (p + 1 + C)) (fl g N ((g.2.2.2.2.2 25) (2 * f + 0)))) (720 + (p + 1 + C + T ((g.2.2.2.2.2 25) (2 * f + 0)))) (fl g N ((g.2.2.2.2.2 25) (2 * f + 1))) := by
        show WL (rwF g r i) F2 (720 + (p + 1 + C)) (fl g N ((g.2.2.2.2.2 25) (2 * f + 0)) ++ fl g N ((g.2.2.2.2.2 25) (2 * f + 1))) = _
        rw [WL_a, hlen, Nat.add_assoc 720 (p + 1 + C)]
      rw [hfb, show p + T f = p + 1 + C + T ((g.2.2.2.2.2 25) (2 * f + 0)) + T ((g.2.2.2.2.2 25) (2 * f + 1)) by omega]
      exact FS_t hfirst (FS_t w2 v2)
end
