/-! reading in step: what an item leaves -/
section
variable {K : Nat → pcell} {tb : Nat} {g g' g0 g1 g2 : gS} {r r' r0 v v' : rS} {x x' x0 x1 : xS} {h h' h0 h1 : pheap} {d : Nat} {Q : Option Value → pheap → Prop} {a n k m rc b L n0 p q j t c c2 c3 no A ce T : Nat} {F fs : Nat → Int32} {l l' : List Nat} {s z : Int32} {w u : Int64} {os fc : Nat → Nat}
def FRv (g' g : gS) (n : Nat) : Prop := ∀ a, a < n → ((g.2.2.2.1 a).1 = 1 ∨ (g.2.2.2.1 a).1 = 2) → g'.2.2.2.1 a = g.2.2.2.1 a ∧ g'.2.1 a = g.2.1 a ∧ g'.2.2.1 a = g.2.2.1 a
theorem frv_r : FRv g g n := fun _ _ _ => ⟨rfl, rfl, rfl⟩
theorem frv_t (p1 : FRv g2 g1 m) (p2 : FRv g1 g n) (hn : n ≤ m) : FRv g2 g n := fun a ha hr => by
  obtain ⟨y1, y2, y3⟩ := p2 a ha hr
  obtain ⟨z1, z2, z3⟩ := p1 a (by omega) (by rw [y1]; exact hr)
  exact ⟨z1.trans y1, z2.trans y2, z3.trans y3⟩
def occ (g : gS) (a o : Nat) : Prop := o < (g.1 0 4) ∧ 20 ≤ (g.2.1 a).1 ∧ (g.2.1 a).2.1 = (nI o).toInt64
def ocN (g : gS) (m0 m1 o : Nat) : Prop := ∃ m k, m0 ≤ m ∧ m < m1 ∧ k < (g.2.2.2.2.2 8) ((g.2.2.2.2.2 11) m) ∧ occ g ((g.2.2.2.2.2 7) (6 * m + k)) o
def SMc (r' r : rS) (c : Nat) : Prop := (r'.2.2.2 87) c = (r.2.2.2 87) c ∧ (r'.2.2.1 88) c = (r.2.2.1 88) c ∧ ∀ k, k < 16 → (r'.2.2.1 89) (16 * c + k) = (r.2.2.1 89) (16 * c + k)
def RSi (r : rS) (A L : Nat) (F : Nat → Int32) (p n0 : Nat) (l : List Nat) : Prop := MR r A L F p ∧ (r.1 90) = nI l.length ∧ ∀ i, i < l.length → (r.2.2.1 138) i = nI (n0 + i)
/-- but for nodes and what cells have -/
def VW (v' v : rS) : Prop := (∀ k, k ≠ 32 → v'.1 k = v.1 k) ∧ v'.2.1 = v.2.1 ∧ (∀ a, a ≠ 92 → a ≠ 88 → a ≠ 89 → v'.2.2.1 a = v.2.2.1 a) ∧ ∀ a, a ≠ 87 → v'.2.2.2 a = v.2.2.2 a
theorem vw_r : VW v v := ⟨fun _ _ => rfl, rfl, fun _ _ _ _ => rfl, fun _ _ => rfl⟩
theorem vw_t {v1 v2 v3 : rS} (p : VW v3 v2) (q : VW v2 v1) : VW v3 v1 := ⟨fun k h1 => (p.1 k h1).trans (q.1 k h1), p.2.1.trans q.2.1, fun a h1 h2 h3 => (p.2.2.1 a h1 h2 h3).trans (q.2.2.1 a h1 h2 h3), fun a h1 => (p.2.2.2 a h1).trans (q.2.2.2 a h1)⟩
theorem vw_f (p : VW v' v) : v'.2.2.1 80 = v.2.2.1 80 := p.2.2.1 _ (by decide) (by decide) (by decide)
theorem vw_w {N : Nat → Int64} {Le T : Nat → Int32} : VW (rwR v N Le T) v := ⟨fun _ _ => rfl, rfl, fun a _ h2 h3 => by
  show (upN (upN v.2.2.1 88 Le) 89 T) a = _
  rw [upN_n _ _ h3, upN_n _ _ h2], fun a h1 => by
  show (upN v.2.2.2 87 N) a = _
  rw [upN_n _ _ h1]⟩
theorem vw_n {fs : Nat → Int32} : VW (ndR v n rc m fs) v := ⟨fun k h1 => by
  show (upN v.1 32 _) k = _
  rw [upN_n _ _ h1], rfl, fun a h1 h2 _ => by
  show (upN (upN v.2.2.1 92 _) 88 _) a = _
  rw [upN_n _ _ h2, upN_n _ _ h1], fun a h1 => by
  show (upN v.2.2.2 87 _) a = _
  rw [upN_n _ _ h1]⟩
/-- where the reference is -/
def HR (A L : Nat) (F : Nat → Int32) (n0 Dn : Nat) (l : List Nat) (p : Nat) (s : Int32) (g : gS) (v r : rS) (T : Nat) (P G : Nat → Prop) (ce : Nat) : Prop := REL P G Dn r v ∧ RSi r A L F p n0 l ∧ (r.1 87) = nI (T + 1) ∧ (r.2.2.1 136) T = nI ce ∧ (r.2.2.1 137) T = s ∧ T + 6 * (12 - l.length) < 100 ∧ ce < 790 ∧ (∀ c, P c → c < 3 + 6 * (g.1 0 1) ∨ 363 ≤ c) ∧ (ce < 3 + 6 * (g.1 0 1) ∨ 363 ≤ ce)
/-- what the reference does meanwhile -/
def RP (A L : Nat) (F : Nat → Int32) (n0 Dn : Nat) (c0 s0 : Int32) (l' : List Nat) (q : Nat) (s : Int32) (g : gS) (r : rS) (T : Nat) (P G : Nat → Prop) (ce : Nat) (a : Nat) (g' : gS) (v' : rS) : Prop :=
  ∃ r' G', REL (fun c => P c ∨ c = ce) G' Dn r' v' ∧ RSi r' A L F q n0 l' ∧ (r'.1 87) = nI T ∧ ((r'.2.2.1 118) = (r.2.2.1 118) ∧ ∀ j, j < T → (r'.2.2.1 136) j = (r.2.2.1 136) j ∧ (r'.2.2.1 137) j = (r.2.2.1 137) j) ∧ VR g' ((r'.2.2.2 87)) ((r'.2.2.1 88)) ((r'.2.2.1 89)) a s ce ∧ VV (g'.1 0 1) (g'.1 0 4) ((g'.2.2.2.2.2 11)) ((g'.2.2.2.2.2 13)) ((r'.2.2.2 87) ce) s ∧ (∀ c, (c < 3 + 6 * (g.1 0 1) ∨ 363 ≤ c) → c ≠ ce → SMc r' r c) ∧ (∀ o, G' o ↔ G o ∨ occ g' a o ∨ ocN g' (g.1 0 1) (g'.1 0 1) o) ∧
  ∀ d (H : pheap) Q ls, 146 ≤ H.1 → LV c0 s0 (nI Dn) ls → ∃ ls', LV c0 s0 (nI Dn) ls' ∧ Go (d + 4) 273 11 ls [] (putR r H) Q = Go (d + 4) 273 11 ls' [] (putR r' H) Q
/-- what the class has -/
def IC (K : Nat → pcell) (tb : Nat) (g0 : gS) (x0 : xS) (h0 : pheap) (b L : Nat) (F : Nat → Int32) (n0 j A Dn : Nat) (c0 s0 : Int32) (l l' : List Nat) (q : Nat) (s : Int32) (g : gS) (v : rS) (x : xS) (h : pheap) (r : rS) (T : Nat) (P G : Nat → Prop) (ce : Nat) (a : Nat) (g' : gS) (v' : rS) (x' : xS) (h' : pheap) : Prop :=
  CB K tb g0 x0 h0 b L F n0 j g' v' x' h' ∧ okP g'.2.2.2.1 h'.1 a (1, 0) ∧ (g'.2.1 a).1 = s ∧ GSm g' g (g.1 0 1) ∧ FRv g' g h.1 ∧ (h.1 ≤ h'.1 ∧ h.1 ≤ a) ∧ ((g.1 0 1) ≤ (g'.1 0 1) ∧ (g'.1 0 1) ≤ n0 + l'.length) ∧ (h'.1 + 21 * (g.1 0 1) ≤ h.1 + 2 + 21 * (g'.1 0 1) ∧ h'.2.1 + 240 * (g.1 0 1) ≤ h.2.1 + 19 + 240 * (g'.1 0 1)) ∧ (x'.2 0 = x.2 0 ∧ VW v' v) ∧
  (∀ d r0 Q, 8 + 2 * (12 - l.length) ≤ d → Go d 144 0 [.ref b, .int s, .ref (x.2 0), .ref 20, mk0, mk0, mk0, mk0] [] (putR r0 (putX x h)) Q = Q (some (.ref a)) (putR r0 (putX x' h'))) ∧
  (((h'.2.2 b).2.2 2 = .int 1 ∧ 60 < n0 + l'.length ∧ ∃ w, g'.2.1 a = (s, w, 0) ∧ VV (g'.1 0 1) (g'.1 0 4) ((g'.2.2.2.2.2 11)) ((g'.2.2.2.2.2 13)) w s) ∨ ((h'.2.2 b).2.2 2 = .int 0 ∧ (h'.2.2 b).2.2 5 = .int (nI q) ∧ (g'.1 0 1) = n0 + l'.length ∧ (∀ i rc, l'[i]? = some rc → (g'.2.2.2.2.2 11) (n0 + i) = rc) ∧ RP A L F n0 Dn c0 s0 l' q s g r T P G ce a g' v'))
/-- a zero is stored -/
theorem cb_zst (hc : CB K tb g0 x0 h0 b L F n0 j g v x h) (hm0 : n0 ≤ m) (hm : m < (g.1 0 1)) (hk : k < (g.2.2.2.2.2 8) ((g.2.2.2.2.2 11) m)) (ha : okP g.2.2.2.1 h.1 a (1, 0)) (hz : g.2.1 a = (s, w, 0)) (hvv : VV (g.1 0 1) (g.1 0 4) ((g.2.2.2.2.2 11)) ((g.2.2.2.2.2 13)) w s) (hs : s = v.2.2.1 80 (6 * (g.2.2.2.2.2 11) m + k)) : ∃ v', CB K tb g0 x0 h0 b L F n0 j (gN g 7 (6 * m + k) a) v' x (hset h ((g.1 2) m + 1) k (.ref a)) ∧ VW v' v := by
  have hw := hc.1
  have hst := w_str (r := rwR v (upN (v.2.2.2 87) (3 + (6 * m + k)) w) (upN (v.2.2.1 88) (3 + (6 * m + k)) (-1)) (v.2.2.1 89)) hw hm hk ha hs (by
    show VV _ _ _ _ (upN (v.2.2.2 87) (3 + (6 * m + k)) w (3 + (6 * m + k))) s
    rw [upN_s]
    exact hvv) (by
    show VR g (upN (v.2.2.2 87) (3 + (6 * m + k)) w) (upN (v.2.2.1 88) (3 + (6 * m + k)) (-1)) (v.2.2.1 89) a s (3 + (6 * m + k))
    unfold VR
    rw [hz, upN_s, upN_s]
    exact ⟨rfl, fun _ => ⟨rfl, rfl⟩, fun _ => Or.inl ⟨rfl, rfl⟩⟩)
  exact ⟨_, cb_set hc hm0 hm hst, vw_w⟩
end
