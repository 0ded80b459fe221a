section
variable {K : Nat → pcell} {tb : Nat} {g g' g1 g2 g0 : gS} {r r' r0 r1 r2 s' v : rS} {x x' x1 x2 xb : xS} {h h' h1 h2 h0 : pheap} {a n k m i j c p q d A o b kp B L T rc ce no n0 Dn cl : Nat} {Q : Option Value → pheap → Prop} {e nt dry s z c0 s0 D : Int32} {f F fs : Nat → Int32} {ss : List Int32} {l : List Nat} {w : Int64} {os : Nat → Nat} {P G : Nat → Prop}
/-- after a node: its cell waits for the class -/
theorem rel_nd (hr : REL P G Dn r v) (hn : NR r' r T A p ce n rc m cl fs) : REL (fun c => P c ∨ c = ce) G Dn r' (ndR v n rc m fs) := by
  obtain ⟨⟨a1, a2, a3, a4, a5, a6⟩, b, c1, c2⟩ := hr
  obtain ⟨d1, d2, d3, d4, d5, d6, d7, d8, d9, d10, d11, d12, d13, d14⟩ := hn
  have hrow : ∀ a, a ≠ 92 → a ≠ 88 → (ndR v n rc m fs).2.2.1 a = v.2.2.1 a := fun a q1 q2 => by
    show (upN (upN v.2.2.1 92 _) 88 _) a = _
    rw [upN_n _ _ q2, upN_n _ _ q1]
  have hnr : (r.2.2.1 92) = v.2.2.1 92 := a3 _ (by decide) (by decide) (by decide) (by decide) (by decide) (by decide) (by decide) (by decide) (by decide) (by decide) (by decide) (by decide) (by decide)
  have eR : (ndR v n rc m fs).2.2.1 95 = v.2.2.1 95 := rfl
  have hR : r'.2.2.1 95 = r.2.2.1 95 := d7 _ (by decide) (by decide) (by decide) (by decide) (by decide)
  refine ⟨⟨fun k q0 q1 q2 q3 q4 q5 q6 q7 => ?_, d6.trans a2, fun a q0 q1 q2 q3 q4 q5 q6 q7 q8 q9 q10 q11 q12 => ?_, fun a ha => ?_, fun j hj => ?_, fun k hk => ?_⟩, fun c hc hP => ?_, fun o ho => ?_, fun i hi => ?_⟩
  · show _ = upN v.1 32 (nI (n + 1)) k
    by_cases e : k = 32
    · subst e
      rw [upN_s]
      exact d5
    · rw [upN_n _ _ e, d1 k q3 q5 q7 e]
      exact a1 k q0 q1 q2 q3 q4 q5 q6 q7
  · by_cases e : a = 92
    · subst e
      rw [d8, hnr]
      rfl
    · rw [hrow a e q9, d7 a q2 q3 q5 e q9]
      exact a3 a q0 q1 q2 q3 q4 q5 q6 q7 q8 q9 q10 q11 q12
  · rw [d10 a ha, a4 a ha]
    show _ = upN v.2.2.2 87 _ a
    rw [upN_n _ _ ha]
  · rw [d7 _ (by decide) (by decide) (by decide) (by decide) (by decide), hrow _ (by decide) (by decide)]
    exact a5 j hj
  · rw [d7 _ (by decide) (by decide) (by decide) (by decide) (by decide), hrow _ (by decide) (by decide)]
    exact a6 k hk
  · have hne : c ≠ ce := fun y => hP (Or.inr y)
    obtain ⟨y1, y2, y3⟩ := b c hc (fun y => hP (Or.inl y))
    refine ⟨?_, ?_, fun k hk => ?_⟩
    · rw [d11, upN_n _ _ hne]
      show wrL ((r.2.2.2 87)) (fun i => zv (fs i)) (3 + 6 * n) m c = wrL (v.2.2.2 87) (fun i => zv (fs i)) (3 + 6 * n) m c
      unfold wrL
      rw [y1]
    · rw [d9, upN_n _ _ hne]
      show wrF ((r.2.2.1 88)) (fun _ => -1) (3 + 6 * n) m c = wrF (v.2.2.1 88) (fun _ => -1) (3 + 6 * n) m c
      unfold wrF
      rw [y2]
    · rw [d7 _ (by decide) (by decide) (by decide) (by decide) (by decide), hrow _ (by decide) (by decide)]
      exact y3 k hk
  · obtain ⟨y1, y2⟩ := c1 o ho
    refine ⟨y1, ?_⟩
    rw [hR, y2]
    rfl
  · rw [hR, eR]
    exact c2 i hi
/-- the class has stored the field -/
def stR (v r : rS) (ce : Nat) : rS := rwR v (upN (v.2.2.2 87) ce ((r.2.2.2 87) ce)) (upN (v.2.2.1 88) ce ((r.2.2.1 88) ce)) (wrF (v.2.2.1 89) (fun k => (r.2.2.1 89) (16 * ce + k)) (16 * ce) 16)
theorem rel_set (hr : REL (fun c => P c ∨ c = ce) G Dn r v) : REL P G Dn r (stR v r ce) := by
  obtain ⟨⟨a1, a2, a3, a4, a5, a6⟩, b, c1, c2⟩ := hr
  have hrow : ∀ a, a ≠ 89 → a ≠ 88 → (stR v r ce).2.2.1 a = v.2.2.1 a := fun a q1 q2 => by
    show (upN (upN v.2.2.1 88 _) 89 _) a = _
    rw [upN_n _ _ q1, upN_n _ _ q2]
  refine ⟨⟨a1, a2, fun a q0 q1 q2 q3 q4 q5 q6 q7 q8 q9 q10 q11 q12 => ?_, fun a ha => ?_, a5, a6⟩, fun c hc hP => ?_, c1, c2⟩
  · rw [hrow a q10 q9]
    exact a3 a q0 q1 q2 q3 q4 q5 q6 q7 q8 q9 q10 q11 q12
  · rw [a4 a ha]
    show _ = upN v.2.2.2 87 _ a
    rw [upN_n _ _ ha]
  · have e1 : (stR v r ce).2.2.2 87 = upN (v.2.2.2 87) ce ((r.2.2.2 87) ce) := rfl
    have e2 : (stR v r ce).2.2.1 88 = upN (v.2.2.1 88) ce ((r.2.2.1 88) ce) := rfl
    have e3 : (stR v r ce).2.2.1 89 = wrF (v.2.2.1 89) (fun k => (r.2.2.1 89) (16 * ce + k)) (16 * ce) 16 := rfl
    rw [e1, e2, e3]
    by_cases e : c = ce
    · subst e
      refine ⟨(upN_s _ _ _).symm, (upN_s _ _ _).symm, fun k hk => ?_⟩
      rw [wrF_i _ _ hk]
    · obtain ⟨y1, y2, y3⟩ := b c hc (fun y => y.elim hP e)
      refine ⟨by rw [upN_n _ _ e]; exact y1, by rw [upN_n _ _ e]; exact y2, fun k hk => ?_⟩
      rw [wrF_o _ _ (by omega)]
      exact y3 k hk
/-- World, once it is stored -/
theorem w_str (hw : World K tb g v x h) (hm : m < (g.1 0 1)) (hk : k < (g.2.2.2.2.2 8) ((g.2.2.2.2.2 11) m)) (ha : okP g.2.2.2.1 h.1 a (1, 0)) (hs : s = v.2.2.1 80 (6 * (g.2.2.2.2.2 11) m + k)) (hvv : VV (g.1 0 1) (g.1 0 4) ((g.2.2.2.2.2 11)) ((g.2.2.2.2.2 13)) ((r.2.2.2 87) (3 + (6 * m + k))) s) (hvr : VR g ((r.2.2.2 87)) ((r.2.2.1 88)) ((r.2.2.1 89)) a s (3 + (6 * m + k))) : World K tb (gN g 7 (6 * m + k) a) (stR v r (3 + (6 * m + k))) x (hset h ((g.1 2) m + 1) k (.ref a)) := by
  subst hs
  refine w_set hw hm hk ha (by rw [upN_s]; exact hvv) (fun c hc => upN_n _ _ hc) (fun c hc => upN_n _ _ hc) (fun c j hc hj => wrF_o _ _ (by omega)) ?_
  unfold VR at hvr ⊢
  obtain ⟨y1, y2, y3⟩ := hvr
  refine ⟨y1, fun y => by rw [upN_s]; exact y2 y, fun y => ?_⟩
  rw [upN_s]
  rcases y3 y with z | ⟨z1, z2, z3, z4⟩
  · exact Or.inl z
  · refine Or.inr ⟨z1, z2, z3, fun k' hk' => ?_⟩
    rw [wrF_i _ _ (by omega)]
    exact z4 k' hk'
end
