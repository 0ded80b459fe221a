section
variable {K : Nat → pcell} {tb : Nat} {g g' g1 g2 g0 : gS} {r r' r0 r1 r2 s s' : rS} {x x' x1 x2 xb : xS} {h h' h1 h2 h0 : pheap} {a n k m i j c p q d A o b w z kp Z B : Nat} {Q : Option Value → pheap → Prop} {e v nt : Int32} {f F G : Nat → Int32} {O1 B1 S1 G1 O' B' S' G' : Nat → Int32}
/-- a message that has come whole lies in both -/
def Msgs (r : rS) (h : pheap) (a j m Z : Nat) (F S1 G1 : Nat → Int32) : Prop := Z ≤ 240 ∧ (∃ sz, S1 (10 * j + (m - 1)) = nI sz ∧ 24 * (m - 1) + sz = Z) ∧ (∀ k, k < Z → G1 (240 * j + k) = F k) ∧ (h.2.2 a).1 = 6 ∧ (h.2.2 a).2.2 4 = .int (nI Z) ∧ (h.2.2 a).2.2 7 = .ref (a + 2) ∧ (h.2.2 (a + 2)).1 = 22 ∧ (h.2.2 (a + 2)).2.1 = 240 ∧ ∀ k, k < Z → (h.2.2 (a + 2)).2.2 k = .int (sb (F k))
def ArrNo (K : Nat → pcell) (tb : Nat) (g : gS) (r : rS) (x : xS) (h : pheap) (w c z : Nat) (O1 B1 S1 G1 : Nat → Int32) : Prop := ∃ g' h', World K tb g' (icR r O1 B1 S1 G1) x h' ∧ PG g' g h' h ∧ (∃ Bn on, B1 (60 * w + c) = nI Bn ∧ Bn < 1024 ∧ O1 (60 * w + c) = nI on ∧ on ≤ 10 ∧ ¬ (Bn ≠ 0 ∧ Bn = 2 ^ on - 1)) ∧ ∀ d r0 Q, Go (d + 2) 136 0 [.ref ((g.2.2.2.2.2 23) (60 * w + c)), .ref 26, .int (nI (5 + z)), mk0, mk0, mk0, mk0] [] (putR r0 (putX x h)) Q = Q (some (.int 0)) (putR r0 (putX x h'))
def ArrYes (K : Nat → pcell) (tb : Nat) (g : gS) (r : rS) (x : xS) (h : pheap) (w c m z : Nat) (O1 B1 S1 G1 : Nat → Int32) (Z : Nat) (F : Nat → Int32) : Prop := ∃ g' h1 h', World K tb g' (icR r (upN O1 (60 * w + c) 0) (upN B1 (60 * w + c) 0) S1 G1) x h' ∧ PG g' g h' h ∧ (∃ Bn, B1 (60 * w + c) = nI Bn ∧ Bn < 1024 ∧ O1 (60 * w + c) = nI m ∧ m ≤ 10 ∧ 1 ≤ m ∧ Bn ≠ 0 ∧ Bn = 2 ^ m - 1) ∧ Msgs r h' ((g.2.2.2.2.2 23) (60 * w + c)) (60 * w + c) m Z F S1 G1 ∧ (146 ≤ h1.1 ∧ (g.2.2.2.2.2 23) (60 * w + c) < h1.1 ∧ (h1.2.2 ((g.2.2.2.2.2 23) (60 * w + c))).1 = 6) ∧ (∀ d r0 Q, Go (d + 2) 136 0 [.ref ((g.2.2.2.2.2 23) (60 * w + c)), .ref 26, .int (nI (5 + z)), mk0, mk0, mk0, mk0] [] (putR r0 (putX x h)) Q = Q (some (.int 1)) (putR r0 (putX x h1))) ∧ (∀ d r0 Q, Go (d + 1) 137 0 [.ref ((g.2.2.2.2.2 23) (60 * w + c)), mk0] [] (putR r0 (putX x h1)) Q = Q none (putR r0 (putX x h')))
/-- one part more that is not there yet, and none of another message -/
theorem arr_new (hw : World K tb g r x h) (hwl : w < 2) (hc : c < (g.1 0 5)) (hrem : (g.2.2.2.2.2 14) c ≠ (g.2.2.2.2.2 15) c) (hic : (g.2.2.2.2.2 23) (60 * w + c) ≠ 0) (hB : (g.2.2.2.2.2 31) (60 * w + c) = 0 ∨ (g.2.2.2.2.2 30) (60 * w + c) = m) (hbit : bt ((g.2.2.2.2.2 31) (60 * w + c)) p = false) (hp : p < m) (hm10 : m ≤ 10) (hz24 : z ≤ 24) (x3 : x.1 26 3 = nI p) (x4 : x.1 26 4 = nI m) (hx : ∀ k, k < z → x.1 26 (5 + k) = sb (f k)) (hgp : gotP ((g.2.2.2.2.2 31) (60 * w + c)) ((g.2.2.2.2.2 30) (60 * w + c)) Z (fun p => (g.2.2.2.2.2 29) (10 * (60 * w + c) + p)) (fun k => (r.2.2.1 141) (240 * (60 * w + c) + k)) F) (hm : m = nP Z) (hz : z = cS Z p) (hf : ∀ k, k < z → f k = F (24 * p + k)) (hZ : Z ≤ 240) (hreal : (g.2.2.2.2.2 31) (60 * w + c) ||| 2 ^ p = 2 ^ m - 1 ∨ (Z = zM g w c ∧ F = fM r w c ∧ (w = 1 → (g.2.2.2.2.2 34) c ≠ 0))) :
    ArrNo K tb g r x h w c z (upN ((r.2.2.1 143)) (60 * w + c) (nI m)) (upN ((r.2.2.1 144)) (60 * w + c) (nI ((g.2.2.2.2.2 31) (60 * w + c) ||| 2 ^ p))) (upN ((r.2.2.1 142)) (10 * (60 * w + c) + p) (nI z)) (wrF ((r.2.2.1 141)) f (240 * (60 * w + c) + 24 * p) z) ∨ ArrYes K tb g r x h w c m z (upN ((r.2.2.1 143)) (60 * w + c) (nI m)) (upN ((r.2.2.1 144)) (60 * w + c) (nI ((g.2.2.2.2.2 31) (60 * w + c) ||| 2 ^ p))) (upN ((r.2.2.1 142)) (10 * (60 * w + c) + p) (nI z)) (wrF ((r.2.2.1 141)) f (240 * (60 * w + c) + 24 * p) z) Z F := by
  have hh := sim_146 hw.1
  have hn60 := (w_nc hw).2.1
  have hj : 60 * w + c < 120 := by omega
  obtain ⟨-, hbl⟩ := gp_M hw hwl hc
  obtain ⟨a1, a2, t, q0, q1, q2, ⟨u3, q3, q3'⟩, ⟨u4, q4, q4'⟩, q5, q6, q7⟩ := s_inc hw.1 (i := 60 * w + c) ⟨hj, hic⟩
  obtain ⟨b1, b2, b3, b4, b5⟩ := s_ihe hw.1 (i := 60 * w + c) ⟨hj, hic⟩
  obtain ⟨c1, c2, c3, c4, c5, c6⟩ := s_iby hw.1 (i := 60 * w + c) ⟨hj, hic⟩
  obtain ⟨kp1, kp2⟩ := b_p10 _ hbl
  have hhp : (h.2.2 ((g.2.2.2.2.2 23) (60 * w + c) + 1)).2.2 p = .int 0 := by
    rw [b5 p (by omega)]
    show Value.int (if bt ((g.2.2.2.2.2 31) (60 * w + c)) p = true then 1 else 0) = _
    rw [hbit]
    rfl
  have hlt : (g.2.2.2.2.2 31) (60 * w + c) < 2 ^ m := by
    by_cases e : (g.2.2.2.2.2 31) (60 * w + c) = 0
    · rw [e]; exact Nat.two_pow_pos m
    · rw [← hB.resolve_left e]; exact (hgp e).2.1
  have hlt1 : (g.2.2.2.2.2 31) (60 * w + c) ||| 2 ^ p < 2 ^ m := b_lt hlt hp
  have hlt2 := b_1024 hm10 hlt1
  have hpc := b_pcn _ hbl p (by omega) hbit
  have hwho := b_who m (by omega) _ hlt1
  rw [hpc] at hwho
  have hrun := fun d r0 Q => x_keep1 (d := d) (r0 := r0) (x := x) (Q := Q) (f := f) (z := z) (kp := pcn ((g.2.2.2.2.2 31) (60 * w + c))) (m := m) hh a1 (by omega) t q0 kp1 q3 (fun y => by rw [q3' (fun z => y (kp2.mpr z)), hB.resolve_left (fun z => y (kp2.mpr z))]) q6 q7 b3 b4 hhp c3 c4 hp hm10 hz24 x3 x4 hx
  have hsz1 := sim_arr (f := f) hw (j := 60 * w + c) ⟨hj, hic⟩ hB hbl hp hm10 hz24 hbit
  by_cases hwh : (g.2.2.2.2.2 31) (60 * w + c) ||| 2 ^ p = 2 ^ m - 1
  · right
    have hkm := hwho.mpr hwh
    have hw2 := w_who (f := f) hw hwl hc hrem hic hB hp hm10 hz24 hbit
    have e2 : ftR (arR r (60 * w + c) p m z ((g.2.2.2.2.2 31) (60 * w + c) ||| 2 ^ p) f) (60 * w + c) = icR r (upN (upN ((r.2.2.1 143)) (60 * w + c) (nI m)) (60 * w + c) 0) (upN (upN ((r.2.2.1 144)) (60 * w + c) (nI ((g.2.2.2.2.2 31) (60 * w + c) ||| 2 ^ p))) (60 * w + c) 0) (upN ((r.2.2.1 142)) (10 * (60 * w + c) + p) (nI z)) (wrF ((r.2.2.1 141)) f (240 * (60 * w + c) + 24 * p) z) := ft_ic
    rw [e2] at hw2
    obtain ⟨w1, w2, w3⟩ := gp_who (gsz' := fun q => upN ((g.2.2.2.2.2 29)) (10 * (60 * w + c) + p) z (10 * (60 * w + c) + q)) (got' := fun k => wrF ((r.2.2.1 141)) f (240 * (60 * w + c) + 24 * p) z (240 * (60 * w + c) + k)) hgp hB hm hm10 hp hwh hz (upN_s _ _ _) (fun q hq _ => upN_n _ _ (by omega)) (fun k hk => by
      show wrF _ f (240 * (60 * w + c) + 24 * p) z (240 * (60 * w + c) + (24 * p + k)) = _
      rw [show 240 * (60 * w + c) + (24 * p + k) = 240 * (60 * w + c) + 24 * p + k by omega, wrF_i _ _ hk]
      exact hf k hk) (fun q k hq _ hk => wrF_o _ _ (by omega))
    have w3' : 24 * (m - 1) + upN ((g.2.2.2.2.2 29)) (10 * (60 * w + c) + p) z (10 * (60 * w + c) + (m - 1)) = Z := w3
    have hszr : upN ((r.2.2.1 142)) (10 * (60 * w + c) + p) (nI z) (10 * (60 * w + c) + (m - 1)) = nI (upN ((g.2.2.2.2.2 29)) (10 * (60 * w + c) + p) z (10 * (60 * w + c) + (m - 1))) := by
      by_cases e : m - 1 = p
      · rw [e, upN_s, upN_s]
      · rw [upN_n _ _ (by omega), upN_n _ _ (by omega)]
        exact (hw.2.2.2.1.1 (60 * w + c) (m - 1) hj (by omega)).1
    -- the class's cells
    have d0 : (drH (kpH h ((g.2.2.2.2.2 23) (60 * w + c)) p m z (pcn ((g.2.2.2.2.2 31) (60 * w + c))) f) ((g.2.2.2.2.2 23) (60 * w + c))).2.2 ((g.2.2.2.2.2 23) (60 * w + c)) = (((kpH h ((g.2.2.2.2.2 23) (60 * w + c)) p m z (pcn ((g.2.2.2.2.2 31) (60 * w + c))) f).2.2 ((g.2.2.2.2.2 23) (60 * w + c))).1, ((kpH h ((g.2.2.2.2.2 23) (60 * w + c)) p m z (pcn ((g.2.2.2.2.2 31) (60 * w + c))) f).2.2 ((g.2.2.2.2.2 23) (60 * w + c))).2.1, updV ((kpH h ((g.2.2.2.2.2 23) (60 * w + c)) p m z (pcn ((g.2.2.2.2.2 31) (60 * w + c))) f).2.2 ((g.2.2.2.2.2 23) (60 * w + c))).2.2 0 (.int 0)) := by
      unfold drH
      rw [hC_o _ (by omega), hs_s]
    have d2 : (drH (kpH h ((g.2.2.2.2.2 23) (60 * w + c)) p m z (pcn ((g.2.2.2.2.2 31) (60 * w + c))) f) ((g.2.2.2.2.2 23) (60 * w + c))).2.2 ((g.2.2.2.2.2 23) (60 * w + c) + 2) = ((h.2.2 ((g.2.2.2.2.2 23) (60 * w + c) + 2)).1, (h.2.2 ((g.2.2.2.2.2 23) (60 * w + c) + 2)).2.1, bwF (h.2.2 ((g.2.2.2.2.2 23) (60 * w + c) + 2)).2.2 (p * 24) f z) := by
      rw [drH_o (by omega) (by omega), kp_2]
    rw [kp_0] at d0
    have hlast : updV (updV (updV (if p + 1 = m then updV (h.2.2 ((g.2.2.2.2.2 23) (60 * w + c))).2.2 4 (.int (nI (p * 24 + z))) else (h.2.2 ((g.2.2.2.2.2 23) (60 * w + c))).2.2) 3 (.int (nI m))) 0 (.int (nI (pcn ((g.2.2.2.2.2 31) (60 * w + c)) + 1)))) 0 (.int 0) 4 = .int (nI Z) := by
      rw [uv_o _ _ (by omega), uv_o _ _ (by omega), uv_o _ _ (by omega)]
      by_cases e : p + 1 = m
      · rw [if_pos e, uv_s]
        rw [show m - 1 = p by omega, upN_s] at w3'
        rw [show p * 24 + z = Z by omega]
      · rw [if_neg e, q4]
        have hb1 : bt ((g.2.2.2.2.2 31) (60 * w + c)) (m - 1) = true := by
          have := b_all hwh (show m - 1 < m by omega)
          rw [b_bt, decide_eq_false (fun y => e (by omega)), Bool.or_false] at this
          exact this
        have hB0 : (g.2.2.2.2.2 31) (60 * w + c) ≠ 0 := fun y => by
          rw [y] at hb1
          unfold bt at hb1
          rw [Nat.zero_testBit] at hb1
          cases hb1
        have hom := hB.resolve_left hB0
        rw [hom] at q4'
        rw [q4' hb1]
        rw [upN_n _ _ (by omega)] at w3'
        show Value.int (nI (24 * (m - 1) + (g.2.2.2.2.2 29) (10 * (60 * w + c) + (m - 1)))) = _
        rw [w3']
    have hseven : updV (updV (updV (if p + 1 = m then updV (h.2.2 ((g.2.2.2.2.2 23) (60 * w + c))).2.2 4 (.int (nI (p * 24 + z))) else (h.2.2 ((g.2.2.2.2.2 23) (60 * w + c))).2.2) 3 (.int (nI m))) 0 (.int (nI (pcn ((g.2.2.2.2.2 31) (60 * w + c)) + 1)))) 0 (.int 0) 7 = .ref ((g.2.2.2.2.2 23) (60 * w + c) + 2) := by
      rw [uv_o _ _ (by omega), uv_o _ _ (by omega), uv_o _ _ (by omega)]
      split
      · rw [uv_o _ _ (by omega)]; exact q7
      · exact q7
    refine ⟨_, kpH h ((g.2.2.2.2.2 23) (60 * w + c)) p m z (pcn ((g.2.2.2.2.2 31) (60 * w + c))) f, _, hw2, pg_ic (by rw [drH_1]; exact hsz1.2.1) (by rw [drH_u]; exact hsz1.2.2), ⟨_, upN_s _ _ _, hlt2, upN_s _ _ _, hm10, by omega, b_ne, hwh⟩, ⟨hZ, ⟨_, hszr, w3'⟩, w2, by rw [d0]; exact t, by rw [d0]; exact hlast, by rw [d0]; exact hseven, by rw [d2]; exact c3, by rw [d2]; exact c4, fun k hk => ?_⟩, ⟨by rw [hsz1.2.1]; exact hh, by rw [hsz1.2.1]; exact a2, by rw [kp_0]; exact t⟩, fun d r0 Q => ?_, fun d r0 Q => ?_⟩
    · rw [d2]
      show bwF _ (p * 24) f z k = _
      have hq : k / 24 < m := by
        rw [hm]
        unfold nP
        rw [if_neg (by omega)]
        omega
      unfold bwF
      by_cases e : k / 24 = p
      · have hkz : k % 24 < z := by
          rw [hz]
          unfold cS
          omega
        rw [if_pos (by omega), hf _ (by omega), show 24 * p + (k - p * 24) = k by omega]
      · have hb1 : bt ((g.2.2.2.2.2 31) (60 * w + c)) (k / 24) = true := by
          have := b_all hwh hq
          rw [b_bt, decide_eq_false (fun y => e y.symm), Bool.or_false] at this
          exact this
        have hB0 : (g.2.2.2.2.2 31) (60 * w + c) ≠ 0 := fun y => by
          rw [y] at hb1
          unfold bt at hb1
          rw [Nat.zero_testBit] at hb1
          cases hb1
        obtain ⟨y1, y2, y3, y4⟩ := hgp hB0
        obtain ⟨v1, v2⟩ := y4 (k / 24) (by rw [y1, ← hm]; exact hq) hb1
        have hkz : k % 24 < cS Z (k / 24) := by unfold cS; omega
        have v1' : (g.2.2.2.2.2 29) (10 * (60 * w + c) + k / 24) = cS Z (k / 24) := v1
        rw [if_neg (by omega)]
        have := c6 (k / 24) (by omega) hb1 (k % 24) (by show k % 24 < (g.2.2.2.2.2 29) (10 * (60 * w + c) + k / 24); rw [v1']; exact hkz)
        rw [show 24 * (k / 24) + k % 24 = k by omega] at this
        rw [this]
        have v3 := v2 (k % 24) hkz
        rw [show 24 * (k / 24) + k % 24 = k by omega] at v3
        show Value.int (sb ((r.2.2.1 141) (240 * (60 * w + c) + k))) = _
        have v3' : (r.2.2.1 141) (240 * (60 * w + c) + k) = F k := v3
        rw [v3']
    · have := hrun (d + 1) r0 Q
      rw [if_pos hkm] at this
      exact this
    · have := x_drop (d := d) (r0 := r0) (Q := Q) hsz1.1 (j := 60 * w + c) ⟨hj, hic⟩
      exact this
  · left
    obtain ⟨z1, z2, z3⟩ := hreal.resolve_left hwh
    have hkm : ¬ pcn ((g.2.2.2.2.2 31) (60 * w + c)) + 1 = m := fun y => hwh (hwho.mp y)
    have hm' : m = nP (zM g w c) := by rw [← z1]; exact hm
    have hz' : z = cS (zM g w c) p := by rw [← z1]; exact hz
    have hw2 := w_arr (f := f) (z := z) hw hwl hc hrem hic z3 hB hp hm10 hm' hz' (fun k hk => by rw [← z2]; exact hf k hk) hbit hwh
    refine ⟨arG g (60 * w + c) p m z ((g.2.2.2.2.2 31) (60 * w + c) ||| 2 ^ p), _, hw2, pg_ic hsz1.2.1 hsz1.2.2, ⟨_, m, upN_s _ _ _, hlt2, upN_s _ _ _, hm10, fun y => hwh y.2⟩, fun d r0 Q => ?_⟩
    have := hrun (d + 1) r0 Q
    rw [if_neg hkm] at this
    exact this
end
