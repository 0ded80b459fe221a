section
variable {K : Nat → pcell} {tb : Nat} {g g' g1 g2 g0 : gS} {r r' r0 r1 r2 s s' : rS} {x x' x1 x2 xb : xS} {h h' h1 h2 h0 : pheap} {a n k m i j c p q d A o b w z kp Z : Nat} {Q : Option Value → pheap → Prop} {e v nt : Int32} {f F : Nat → Int32} {B O S : Nat → Nat} {O' B' S' G' : Nat → Int32}
theorem ic_of (hw : World K tb g r x h) : (∀ i, i < 120 → (g.2.2.2.2.2 23) i ≠ 0 → (g.2.2.2.2.2 30) i ≤ 10) ∧ ∀ i p, i < 120 → p < 10 → (g.2.2.2.2.2 29) (10 * i + p) ≤ 24 := by
  have hn60 := (w_nc hw).2.1
  refine ⟨fun i hi hic => ?_, fun i p hi hp => (hw.2.2.2.1.1 i p hi hp).2⟩
  obtain ⟨w', c', hw', hc', rfl⟩ : ∃ w' c', w' < 2 ∧ c' < 60 ∧ i = 60 * w' + c' := ⟨i / 60, i % 60, by omega, by omega, by omega⟩
  obtain ⟨y1, y2, y3⟩ := (w_way hw).2 c' hc' w' hw'
  by_cases e : c' < (g.1 0 5)
  · exact (y3 e).2.2.2
  · exact absurd (y1 (by omega)).1 hic
theorem icR_2 : icR r O' B' ((r.2.2.1 142)) ((r.2.2.1 141)) = sR (sR r 143 O') 144 B' := by
  unfold icR
  have e1 : sR (sR (sR r 143 O') 144 B') 142 ((r.2.2.1 142)) = sR (sR r 143 O') 144 B' := sR_i (sR (sR r 143 O') 144 B') 142
  rw [e1]
  exact sR_i (sR (sR r 143 O') 144 B') 141
theorem icG_icG {B1 O1 S1 : Nat → Nat} : icG (icG g B1 O1 S1) B O S = icG g B O S := by
  unfold icG gF
  refine Prod.ext rfl (Prod.ext rfl (Prod.ext rfl (Prod.ext rfl (Prod.ext rfl (funext fun a => ?_)))))
  show upN (upN (upN (upN (upN (upN g.2.2.2.2.2 31 B1) 30 O1) 29 S1) 31 B) 30 O) 29 S a = upN (upN (upN g.2.2.2.2.2 31 B) 30 O) 29 S a
  by_cases e1 : a = 29
  · subst e1; rfl
  by_cases e2 : a = 30
  · subst e2; rfl
  by_cases e3 : a = 31
  · subst e3; rfl
  rw [upN_n _ _ e1, upN_n _ _ e2, upN_n _ _ e3, upN_n _ _ e1, upN_n _ _ e2, upN_n _ _ e3, upN_n _ _ e1, upN_n _ _ e2, upN_n _ _ e3]
def ftR (r : rS) (j : Nat) : rS := sA (sA r 143 j 0) 144 j 0
def ftG (g : gS) (j : Nat) : gS := icG g (upN ((g.2.2.2.2.2 31)) j 0) (upN ((g.2.2.2.2.2 30)) j 0) ((g.2.2.2.2.2 29))
/-- parts are forgotten -/
theorem w_fgt (hw : World K tb g r x h) (hwl : w < 2) (hc : c < (g.1 0 5)) (hrem : (g.2.2.2.2.2 14) c ≠ (g.2.2.2.2.2 15) c) (hic : (g.2.2.2.2.2 23) (60 * w + c) ≠ 0) : World K tb (ftG g (60 * w + c)) (ftR r (60 * w + c)) x (drH h ((g.2.2.2.2.2 23) (60 * w + c))) := by
  have hn60 := (w_nc hw).2.1
  obtain ⟨hof, hsz⟩ := ic_of hw
  have hS := op_drop hw.1 (j := 60 * w + c) ⟨by omega, hic⟩ hof hsz
  have e : ftR r (60 * w + c) = icR r (upN ((r.2.2.1 143)) (60 * w + c) 0) (upN ((r.2.2.1 144)) (60 * w + c) 0) ((r.2.2.1 142)) ((r.2.2.1 141)) := icR_2.symm
  rw [e]
  have hSR : Sim K (icG g (upN ((g.2.2.2.2.2 31)) (60 * w + c) 0) (upN ((g.2.2.2.2.2 30)) (60 * w + c) 0) ((g.2.2.2.2.2 29))) (icR r (upN ((r.2.2.1 143)) (60 * w + c) 0) (upN ((r.2.2.1 144)) (60 * w + c) 0) ((r.2.2.1 142)) ((r.2.2.1 141))) x (drH h ((g.2.2.2.2.2 23) (60 * w + c))) := hS
  have hz : ∀ {Ox Zx : Nat} {sx : Nat → Nat} {gx Fx : Nat → Int32}, gotP 0 Ox Zx sx gx Fx := fun y => absurd rfl y
  refine w_ic hw hSR hwl hc hrem hic (fun i hi => upN_n _ _ hi) (fun i hi => upN_n _ _ hi) (fun i hi => upN_n _ _ hi) (fun i hi => upN_n _ _ hi) ⟨by rw [upN_s, upN_s]; rfl, by rw [upN_s]; omega⟩ ⟨by rw [upN_s, upN_s]; rfl, by rw [upN_s]; omega⟩ hw.2.2.2.1.1 (fun _ _ _ _ => rfl) (fun _ _ _ _ => rfl) (fun e => ?_) (fun e => ?_)
  · subst e
    have : upN ((g.2.2.2.2.2 31)) (60 * 0 + c) 0 c = 0 := by rw [show 60 * 0 + c = c by omega, upN_s]
    rw [this]
    exact hz
  · subst e
    have : upN ((g.2.2.2.2.2 31)) (60 * 1 + c) 0 (60 + c) = 0 := by rw [show 60 * 1 + c = 60 + c by omega, upN_s]
    rw [this]
    exact ⟨hz, fun y => absurd rfl y⟩
/-- the message that a call's parts are of -/
def zM (g : gS) (w c : Nat) : Nat := if w = 0 then (g.2.2.2.2.2 33) c else (g.2.2.2.2.2 34) c
def fM (r : rS) (w c : Nat) : Nat → Int32 := fun k => if w = 0 then (r.2.2.1 123) (240 * c + k) else (r.2.2.1 127) (240 * c + k)
theorem gp_M (hw : World K tb g r x h) (hwl : w < 2) (hc : c < (g.1 0 5)) : gotP ((g.2.2.2.2.2 31) (60 * w + c)) ((g.2.2.2.2.2 30) (60 * w + c)) (zM g w c) (fun p => (g.2.2.2.2.2 29) (10 * (60 * w + c) + p)) (fun k => (r.2.2.1 141) (240 * (60 * w + c) + k)) (fM r w c) ∧ (g.2.2.2.2.2 31) (60 * w + c) < 1024 := by
  have hn60 := (w_nc hw).2.1
  obtain ⟨y1, y2, y3, y4⟩ := hw.2.2.2.1.2 c hc
  have hb := ((w_way hw).2 c (by omega) w hwl).2.2 hc
  obtain rfl | rfl : w = 0 ∨ w = 1 := by omega
  · unfold zM fM
    simp only [Nat.mul_zero, Nat.zero_add, if_pos] at *
    exact ⟨y2, hb.2.1⟩
  · unfold zM fM
    simp only [Nat.mul_one] at *
    rw [if_neg (by decide)]
    exact ⟨y3, hb.2.1⟩
theorem w_arr (hw : World K tb g r x h) (hwl : w < 2) (hc : c < (g.1 0 5)) (hrem : (g.2.2.2.2.2 14) c ≠ (g.2.2.2.2.2 15) c) (hic : (g.2.2.2.2.2 23) (60 * w + c) ≠ 0) (haz : w = 1 → (g.2.2.2.2.2 34) c ≠ 0) (hB : (g.2.2.2.2.2 31) (60 * w + c) = 0 ∨ (g.2.2.2.2.2 30) (60 * w + c) = m) (hp : p < m) (hm10 : m ≤ 10) (hm : m = nP (zM g w c)) (hz : z = cS (zM g w c) p) (hf : ∀ k, k < z → f k = fM r w c (24 * p + k)) (hbit : bt ((g.2.2.2.2.2 31) (60 * w + c)) p = false) (hne : (g.2.2.2.2.2 31) (60 * w + c) ||| 2 ^ p ≠ 2 ^ m - 1) : World K tb (arG g (60 * w + c) p m z ((g.2.2.2.2.2 31) (60 * w + c) ||| 2 ^ p)) (arR r (60 * w + c) p m z ((g.2.2.2.2.2 31) (60 * w + c) ||| 2 ^ p) f) x (kpH h ((g.2.2.2.2.2 23) (60 * w + c)) p m z (pcn ((g.2.2.2.2.2 31) (60 * w + c))) f) := by
  have hn60 := (w_nc hw).2.1
  obtain ⟨gp, hbl⟩ := gp_M hw hwl hc
  have hz24 : z ≤ 24 := by rw [hz]; unfold cS; omega
  obtain ⟨hS, -⟩ := sim_arr (f := f) hw (j := 60 * w + c) ⟨by omega, hic⟩ hB hbl hp hm10 hz24 hbit
  have hSR : Sim K (icG g (upN ((g.2.2.2.2.2 31)) (60 * w + c) ((g.2.2.2.2.2 31) (60 * w + c) ||| 2 ^ p)) (upN ((g.2.2.2.2.2 30)) (60 * w + c) m) (upN ((g.2.2.2.2.2 29)) (10 * (60 * w + c) + p) z)) (icR r (upN ((r.2.2.1 143)) (60 * w + c) (nI m)) (upN ((r.2.2.1 144)) (60 * w + c) (nI ((g.2.2.2.2.2 31) (60 * w + c) ||| 2 ^ p))) (upN ((r.2.2.1 142)) (10 * (60 * w + c) + p) (nI z)) (wrF ((r.2.2.1 141)) f (240 * (60 * w + c) + 24 * p) z)) x (kpH h ((g.2.2.2.2.2 23) (60 * w + c)) p m z (pcn ((g.2.2.2.2.2 31) (60 * w + c))) f) := hS
  have hadd := gp_add (gsz' := fun q => upN ((g.2.2.2.2.2 29)) (10 * (60 * w + c) + p) z (10 * (60 * w + c) + q)) (got' := fun k => wrF ((r.2.2.1 141)) f (240 * (60 * w + c) + 24 * p) z (240 * (60 * w + c) + k)) gp hB hm hm10 hp hne hz (upN_s _ _ _) (fun q hq _ => upN_n _ _ (by omega)) (fun k hk => by
    show wrF _ f (240 * (60 * w + c) + 24 * p) z (240 * (60 * w + c) + (24 * p + k)) = _
    rw [show 240 * (60 * w + c) + (24 * p + k) = 240 * (60 * w + c) + 24 * p + k by omega, wrF_i _ _ hk]
    exact hf k hk) (fun q k hq _ hk => wrF_o _ _ (by omega))
  have hlt : (g.2.2.2.2.2 31) (60 * w + c) ||| 2 ^ p < 1024 := b_1024 hm10 (hadd b_ne).2.1
  refine w_ic hw hSR hwl hc hrem hic (fun i hi => upN_n _ _ hi) (fun i hi => upN_n _ _ hi) (fun i hi => upN_n _ _ hi) (fun i hi => upN_n _ _ hi) ⟨by rw [upN_s, upN_s], by rw [upN_s]; exact hlt⟩ ⟨by rw [upN_s, upN_s], by rw [upN_s]; exact hm10⟩ (fun i q hi hq => ?_) (fun i q hi hq => upN_n _ _ (by omega)) (fun i k hi hk => wrF_o _ _ (by omega)) (fun e => ?_) (fun e => ?_)
  · by_cases e : 10 * i + q = 10 * (60 * w + c) + p
    · rw [e, upN_s, upN_s]
      exact ⟨rfl, hz24⟩
    · rw [upN_n _ _ e, upN_n _ _ e]
      exact hw.2.2.2.1.1 i q hi hq
  · subst e
    unfold zM fM at hadd
    simp only [Nat.mul_zero, Nat.zero_add, if_pos] at hadd ⊢
    rw [upN_s, upN_s]
    exact hadd
  · subst e
    unfold zM fM at hadd
    simp only [Nat.mul_one] at hadd ⊢
    rw [upN_s, upN_s]
    exact ⟨hadd, fun _ => haz rfl⟩
/-- all parts have come: they are dropped -/
theorem w_who (hw : World K tb g r x h) (hwl : w < 2) (hc : c < (g.1 0 5)) (hrem : (g.2.2.2.2.2 14) c ≠ (g.2.2.2.2.2 15) c) (hic : (g.2.2.2.2.2 23) (60 * w + c) ≠ 0) (hB : (g.2.2.2.2.2 31) (60 * w + c) = 0 ∨ (g.2.2.2.2.2 30) (60 * w + c) = m) (hp : p < m) (hm10 : m ≤ 10) (hz24 : z ≤ 24) (hbit : bt ((g.2.2.2.2.2 31) (60 * w + c)) p = false) : World K tb (icG g (upN ((g.2.2.2.2.2 31)) (60 * w + c) 0) (upN ((g.2.2.2.2.2 30)) (60 * w + c) 0) (upN ((g.2.2.2.2.2 29)) (10 * (60 * w + c) + p) z)) (ftR (arR r (60 * w + c) p m z ((g.2.2.2.2.2 31) (60 * w + c) ||| 2 ^ p) f) (60 * w + c)) x (drH (kpH h ((g.2.2.2.2.2 23) (60 * w + c)) p m z (pcn ((g.2.2.2.2.2 31) (60 * w + c))) f) ((g.2.2.2.2.2 23) (60 * w + c))) := by
  have hn60 := (w_nc hw).2.1
  obtain ⟨hof, hsz⟩ := ic_of hw
  obtain ⟨gp, hbl⟩ := gp_M hw hwl hc
  obtain ⟨hS, -⟩ := sim_arr (f := f) hw (j := 60 * w + c) ⟨by omega, hic⟩ hB hbl hp hm10 hz24 hbit
  have hS2 := op_drop hS (j := 60 * w + c) ⟨by omega, hic⟩ (fun i hi hi0 => by
    show upN ((g.2.2.2.2.2 30)) (60 * w + c) m i ≤ 10
    by_cases e : i = 60 * w + c
    · rw [e, upN_s]; exact hm10
    · rw [upN_n _ _ e]; exact hof i hi hi0) (fun i q hi hq => by
    show upN ((g.2.2.2.2.2 29)) (10 * (60 * w + c) + p) z (10 * i + q) ≤ 24
    by_cases e : 10 * i + q = 10 * (60 * w + c) + p
    · rw [e, upN_s]; exact hz24
    · rw [upN_n _ _ e]; exact hsz i q hi hq)
  have e1 : icG (arG g (60 * w + c) p m z ((g.2.2.2.2.2 31) (60 * w + c) ||| 2 ^ p)) (upN (upN ((g.2.2.2.2.2 31)) (60 * w + c) ((g.2.2.2.2.2 31) (60 * w + c) ||| 2 ^ p)) (60 * w + c) 0) (upN (upN ((g.2.2.2.2.2 30)) (60 * w + c) m) (60 * w + c) 0) (upN ((g.2.2.2.2.2 29)) (10 * (60 * w + c) + p) z) = icG g (upN ((g.2.2.2.2.2 31)) (60 * w + c) 0) (upN ((g.2.2.2.2.2 30)) (60 * w + c) 0) (upN ((g.2.2.2.2.2 29)) (10 * (60 * w + c) + p) z) := by
    unfold arG
    rw [icG_icG, upN_u, upN_u]
  have hS3 : Sim K (icG (arG g (60 * w + c) p m z ((g.2.2.2.2.2 31) (60 * w + c) ||| 2 ^ p)) (upN (upN ((g.2.2.2.2.2 31)) (60 * w + c) ((g.2.2.2.2.2 31) (60 * w + c) ||| 2 ^ p)) (60 * w + c) 0) (upN (upN ((g.2.2.2.2.2 30)) (60 * w + c) m) (60 * w + c) 0) (upN ((g.2.2.2.2.2 29)) (10 * (60 * w + c) + p) z)) (arR r (60 * w + c) p m z ((g.2.2.2.2.2 31) (60 * w + c) ||| 2 ^ p) f) x (drH (kpH h ((g.2.2.2.2.2 23) (60 * w + c)) p m z (pcn ((g.2.2.2.2.2 31) (60 * w + c))) f) ((g.2.2.2.2.2 23) (60 * w + c))) := hS2
  rw [e1] at hS3
  have e2 : ftR (arR r (60 * w + c) p m z ((g.2.2.2.2.2 31) (60 * w + c) ||| 2 ^ p) f) (60 * w + c) = icR r (upN ((r.2.2.1 143)) (60 * w + c) 0) (upN ((r.2.2.1 144)) (60 * w + c) 0) (upN ((r.2.2.1 142)) (10 * (60 * w + c) + p) (nI z)) (wrF ((r.2.2.1 141)) f (240 * (60 * w + c) + 24 * p) z) := by
    refine Prod.ext rfl (Prod.ext rfl (Prod.ext (funext fun a => ?_) rfl))
    show upN (upN (upN (upN (upN (upN r.2.2.1 143 (upN ((r.2.2.1 143)) (60 * w + c) (nI m))) 144 (upN ((r.2.2.1 144)) (60 * w + c) (nI ((g.2.2.2.2.2 31) (60 * w + c) ||| 2 ^ p)))) 142 (upN ((r.2.2.1 142)) (10 * (60 * w + c) + p) (nI z))) 141 (wrF ((r.2.2.1 141)) f (240 * (60 * w + c) + 24 * p) z)) 143 (upN (upN ((r.2.2.1 143)) (60 * w + c) (nI m)) (60 * w + c) 0)) 144 (upN (upN ((r.2.2.1 144)) (60 * w + c) (nI ((g.2.2.2.2.2 31) (60 * w + c) ||| 2 ^ p))) (60 * w + c) 0) a = upN (upN (upN (upN r.2.2.1 143 (upN ((r.2.2.1 143)) (60 * w + c) 0)) 144 (upN ((r.2.2.1 144)) (60 * w + c) 0)) 142 (upN ((r.2.2.1 142)) (10 * (60 * w + c) + p) (nI z))) 141 (wrF ((r.2.2.1 141)) f (240 * (60 * w + c) + 24 * p) z) a
    rw [upN_u, upN_u]
    by_cases y1 : a = 141
    · subst y1; rfl
    by_cases y2 : a = 142
    · subst y2; rfl
    by_cases y3 : a = 144
    · subst y3; rfl
    by_cases y4 : a = 143
    · subst y4; rfl
    rw [upN_n _ _ y3, upN_n _ _ y4, upN_n _ _ y1, upN_n _ _ y2, upN_n _ _ y3, upN_n _ _ y4, upN_n _ _ y1, upN_n _ _ y2, upN_n _ _ y3, upN_n _ _ y4]
  rw [e2]
  have hSR : Sim K (icG g (upN ((g.2.2.2.2.2 31)) (60 * w + c) 0) (upN ((g.2.2.2.2.2 30)) (60 * w + c) 0) (upN ((g.2.2.2.2.2 29)) (10 * (60 * w + c) + p) z)) (icR r (upN ((r.2.2.1 143)) (60 * w + c) 0) (upN ((r.2.2.1 144)) (60 * w + c) 0) (upN ((r.2.2.1 142)) (10 * (60 * w + c) + p) (nI z)) (wrF ((r.2.2.1 141)) f (240 * (60 * w + c) + 24 * p) z)) x (drH (kpH h ((g.2.2.2.2.2 23) (60 * w + c)) p m z (pcn ((g.2.2.2.2.2 31) (60 * w + c))) f) ((g.2.2.2.2.2 23) (60 * w + c))) := hS3
  have hz0 : ∀ {Ox Zx : Nat} {sx : Nat → Nat} {gx Fx : Nat → Int32}, gotP 0 Ox Zx sx gx Fx := fun y => absurd rfl y
  refine w_ic hw hSR hwl hc hrem hic (fun i hi => upN_n _ _ hi) (fun i hi => upN_n _ _ hi) (fun i hi => upN_n _ _ hi) (fun i hi => upN_n _ _ hi) ⟨by rw [upN_s, upN_s]; rfl, by rw [upN_s]; omega⟩ ⟨by rw [upN_s, upN_s]; rfl, by rw [upN_s]; omega⟩ (fun i q hi hq => ?_) (fun i q hi hq => upN_n _ _ (by omega)) (fun i k hi hk => wrF_o _ _ (by omega)) (fun e => ?_) (fun e => ?_)
  · by_cases e : 10 * i + q = 10 * (60 * w + c) + p
    · rw [e, upN_s, upN_s]
      exact ⟨rfl, hz24⟩
    · rw [upN_n _ _ e, upN_n _ _ e]
      exact hw.2.2.2.1.1 i q hi hq
  · subst e
    have : upN ((g.2.2.2.2.2 31)) (60 * 0 + c) 0 c = 0 := by rw [show 60 * 0 + c = c by omega, upN_s]
    rw [this]
    exact hz0
  · subst e
    have : upN ((g.2.2.2.2.2 31)) (60 * 1 + c) 0 (60 + c) = 0 := by rw [show 60 * 1 + c = 60 + c by omega, upN_s]
    rw [this]
    exact ⟨hz0, fun y => absurd rfl y⟩
end
