/-! the reference as a value: its int fields, its word, its int (boolean) arrays, its long arrays, by address -/
abbrev rS : Type := (Nat → Int32) × Int64 × (Nat → Nat → Int32) × (Nat → Nat → Int64)
def rAd : List Nat := [74, 0, 0, 0, 0, 0, 0, 0, 0, 75, 76, 0, 77, 78, 79, 80, 0, 81, 82, 83, 84, 85, 86, 0, 87, 88, 89, 90, 0, 91, 0, 92, 0, 0, 93, 94, 95, 96, 97, 98, 99, 0, 100, 101, 102, 103, 104, 105, 106, 107, 0, 108, 109, 110, 111, 112, 113, 0, 114, 115, 116, 117, 118, 119, 120, 121, 122, 123, 124, 125, 126, 127, 128, 129, 130, 0, 131, 132, 0, 133, 134, 0, 0, 135, 0, 136, 137, 0, 0, 0, 0, 138, 139, 140, 0, 0, 141, 142, 143, 144, 145]
def rTL : List (Nat × Nat) := [(20, 1500), (21, 9), (20, 9), (21, 6), (20, 6), (21, 36), (20, 36), (21, 8), (20, 8), (21, 64), (20, 64), (20, 64), (20, 192), (21, 790), (20, 790), (20, 12640), (20, 16), (20, 3), (20, 60), (20, 8), (23, 72), (20, 192), (20, 32), (20, 8), (20, 8), (20, 8), (20, 24), (20, 24), (20, 24), (20, 24), (20, 24), (20, 24), (21, 24), (20, 24), (20, 16), (20, 16), (20, 16), (20, 32), (20, 16), (20, 16), (20, 60), (20, 60), (20, 60), (20, 60), (20, 60), (20, 60), (23, 60), (20, 60), (20, 60), (20, 14400), (20, 60), (23, 60), (23, 60), (20, 14400), (20, 60), (20, 60), (23, 60), (20, 61), (20, 3660), (20, 64), (20, 240), (20, 12), (20, 100), (20, 100), (20, 12), (20, 1320), (20, 41), (20, 28800), (20, 1200), (20, 120), (20, 120), (20, 60)]
def rfv (r : rS) (k : Nat) : Value := if rAd.getD k 0 = 0 then (if k = 8 then .long r.2.1 else .int (r.1 k)) else .ref (rAd.getD k 0)
def rcell (r : rS) (a : Nat) : pcell := if a = 73 then (13, 101, rfv r) else ((rTL.getD (a - 74) (0, 0)).1, (rTL.getD (a - 74) (0, 0)).2, fun i => if (rTL.getD (a - 74) (0, 0)).1 = 21 then .long (r.2.2.2 a i) else .int (r.2.2.1 a i))
def putR (r : rS) (h : pheap) : pheap := (h.1, h.2.1, fun a => if 73 ≤ a ∧ a < 146 then rcell r a else h.2.2 a)
def upN {α : Type} (f : Nat → α) (k : Nat) (x : α) : Nat → α := fun j => if j = k then x else f j
def sI (r : rS) (k : Nat) (x : Int32) : rS := (upN r.1 k x, r.2)
def sW (r : rS) (x : Int64) : rS := (r.1, x, r.2.2)
def sA (r : rS) (a i : Nat) (x : Int32) : rS := (r.1, r.2.1, upN r.2.2.1 a (upN (r.2.2.1 a) i x), r.2.2.2)
def sL (r : rS) (a i : Nat) (x : Int64) : rS := (r.1, r.2.1, r.2.2.1, upN r.2.2.2 a (upN (r.2.2.2 a) i x))
theorem upN_s {α : Type} (f : Nat → α) (k : Nat) (x : α) : upN f k x k = x := if_pos rfl
theorem upN_n {α : Type} (f : Nat → α) {k j : Nat} (x : α) (h : j ≠ k) : upN f k x j = f j := if_neg h
theorem putR_1 (r : rS) (h : pheap) : (putR r h).1 = h.1 := rfl
theorem putR_u (r : rS) (h : pheap) : (putR r h).2.1 = h.2.1 := rfl
theorem putR_in (r : rS) (h : pheap) {a : Nat} (h1 : 73 ≤ a) (h2 : a < 146) : (putR r h).2.2 a = rcell r a := if_pos ⟨h1, h2⟩
theorem putR_lo (r : rS) (h : pheap) {a : Nat} (h1 : a < 73) : (putR r h).2.2 a = h.2.2 a := if_neg (by omega)
theorem putR_hi (r : rS) (h : pheap) {a : Nat} (h1 : 146 ≤ a) : (putR r h).2.2 a = h.2.2 a := if_neg (by omega)
theorem putR_lt {h : pheap} {a : Nat} (hh : 146 ≤ h.1) (ha : a < 146) : (a < h.1) = True := eq_true (by omega)
theorem hset_lo (r : rS) (h : pheap) {a i : Nat} {v : Value} (ha : a < 73) : hset (putR r h) a i v = putR r (hset h a i v) := by
  unfold hset putR
  refine Prod.ext rfl (Prod.ext rfl (funext fun b => ?_))
  dsimp only
  by_cases hb : b = a
  · subst hb
    simp only [if_true, if_neg (show ¬ (73 ≤ b ∧ b < 146) by omega)]
  · rw [if_neg hb, if_neg hb]
theorem hset_hi (r : rS) (h : pheap) {a i : Nat} {v : Value} (ha : 146 ≤ a) : hset (putR r h) a i v = putR r (hset h a i v) := by
  unfold hset putR
  refine Prod.ext rfl (Prod.ext rfl (funext fun b => ?_))
  dsimp only
  by_cases hb : b = a
  · subst hb
    simp only [if_true, if_neg (show ¬ (73 ≤ b ∧ b < 146) by omega)]
  · rw [if_neg hb, if_neg hb]
theorem hnew_R (r : rS) (h : pheap) {t n : Nat} {f : Nat → Value} (hh : 146 ≤ h.1) : hnew (putR r h) t n f = putR r (hnew h t n f) := by
  unfold hnew putR
  refine Prod.ext rfl (Prod.ext rfl (funext fun b => ?_))
  dsimp only
  by_cases hb : b = h.1
  · subst hb
    rw [if_pos rfl, if_neg (show ¬ (73 ≤ h.1 ∧ h.1 < 146) by omega), if_pos rfl]
  · rw [if_neg hb, if_neg hb]
theorem putR_in2 (r s : rS) (h : pheap) {a i : Nat} {v : Value} (h1 : 73 ≤ a) (h2 : a < 146) (ho : ∀ b, b ≠ a → 73 ≤ b → b < 146 → rcell s b = rcell r b) (ha : rcell s a = ((rcell r a).1, (rcell r a).2.1, updV (rcell r a).2.2 i v)) : hset (putR r h) a i v = putR s h := by
  unfold hset putR
  refine Prod.ext rfl (Prod.ext rfl (funext fun b => ?_))
  dsimp only
  by_cases hb : b = a
  · subst hb
    rw [if_pos rfl, if_pos ⟨h1, h2⟩, if_pos ⟨h1, h2⟩, ha]
  · rw [if_neg hb]
    by_cases hc : 73 ≤ b ∧ b < 146
    · rw [if_pos hc, if_pos hc, ho b hb hc.1 hc.2]
    · rw [if_neg hc, if_neg hc]
theorem hset_I (r : rS) (h : pheap) {k : Nat} {x : Int32} (hk : rAd.getD k 0 = 0) (h8 : k ≠ 8) : hset (putR r h) 73 k (.int x) = putR (sI r k x) h := by
  refine putR_in2 r (sI r k x) h (by decide) (by decide) (fun b hb _ _ => ?_) ?_
  · unfold rcell sI
    rw [if_neg hb, if_neg hb]
  · unfold rcell
    rw [if_pos rfl, if_pos rfl]
    refine Prod.ext rfl (Prod.ext rfl (funext fun j => ?_))
    show rfv (sI r k x) j = updV (rfv r) k (.int x) j
    unfold updV rfv sI upN
    by_cases hj : j = k
    · subst hj
      rw [if_pos hk, if_neg h8]
      simp
    · simp [hj]
theorem hset_W (r : rS) (h : pheap) {x : Int64} : hset (putR r h) 73 8 (.long x) = putR (sW r x) h := by
  refine putR_in2 r (sW r x) h (by decide) (by decide) (fun b hb _ _ => ?_) ?_
  · unfold rcell sW
    rw [if_neg hb, if_neg hb]
  · unfold rcell
    rw [if_pos rfl, if_pos rfl]
    refine Prod.ext rfl (Prod.ext rfl (funext fun j => ?_))
    show rfv (sW r x) j = updV (rfv r) 8 (.long x) j
    unfold updV rfv sW
    by_cases hj : j = 8
    · subst hj
      rw [if_pos rfl, if_pos rfl]
      rfl
    · simp [hj]
theorem hset_A (r : rS) (h : pheap) {a i : Nat} {x : Int32} (h1 : 74 ≤ a) (h2 : a < 146) (ht : (rTL.getD (a - 74) (0, 0)).1 ≠ 21) : hset (putR r h) a i (.int x) = putR (sA r a i x) h := by
  refine putR_in2 r (sA r a i x) h (by omega) h2 (fun b hb _ _ => ?_) ?_
  · unfold rcell sA
    by_cases h3 : b = 73
    · rw [if_pos h3, if_pos h3]; rfl
    · rw [if_neg h3, if_neg h3]
      refine Prod.ext rfl (Prod.ext rfl (funext fun j => ?_))
      dsimp only
      rw [upN_n _ _ hb]
  · unfold rcell sA
    rw [if_neg (by omega), if_neg (by omega)]
    refine Prod.ext rfl (Prod.ext rfl (funext fun j => ?_))
    dsimp only
    unfold updV
    dsimp only
    rw [if_neg ht, if_neg ht, upN_s]
    by_cases hj : j = i
    · subst hj; rw [if_pos rfl, upN_s]
    · rw [if_neg hj, upN_n _ _ hj]
theorem hset_L (r : rS) (h : pheap) {a i : Nat} {x : Int64} (h1 : 74 ≤ a) (h2 : a < 146) (ht : (rTL.getD (a - 74) (0, 0)).1 = 21) : hset (putR r h) a i (.long x) = putR (sL r a i x) h := by
  refine putR_in2 r (sL r a i x) h (by omega) h2 (fun b hb _ _ => ?_) ?_
  · unfold rcell sL
    by_cases h3 : b = 73
    · rw [if_pos h3, if_pos h3]; rfl
    · rw [if_neg h3, if_neg h3]
      refine Prod.ext rfl (Prod.ext rfl (funext fun j => ?_))
      dsimp only
      rw [upN_n _ _ hb]
  · unfold rcell sL
    rw [if_neg (by omega), if_neg (by omega)]
    refine Prod.ext rfl (Prod.ext rfl (funext fun j => ?_))
    dsimp only
    unfold updV
    dsimp only
    rw [if_pos ht, if_pos ht, upN_s]
    by_cases hj : j = i
    · subst hj; rw [if_pos rfl, upN_s]
    · rw [if_neg hj, upN_n _ _ hj]
theorem pr_73 (r : rS) (h : pheap) : (putR r h).2.2 73 = (13, 101, rfv r) := rfl
theorem pr_74 (r : rS) (h : pheap) : (putR r h).2.2 74 = (20, 1500, fun i => .int (r.2.2.1 74 i)) := rfl
theorem pr_75 (r : rS) (h : pheap) : (putR r h).2.2 75 = (21, 9, fun i => .long (r.2.2.2 75 i)) := rfl
theorem pr_76 (r : rS) (h : pheap) : (putR r h).2.2 76 = (20, 9, fun i => .int (r.2.2.1 76 i)) := rfl
theorem pr_77 (r : rS) (h : pheap) : (putR r h).2.2 77 = (21, 6, fun i => .long (r.2.2.2 77 i)) := rfl
theorem pr_78 (r : rS) (h : pheap) : (putR r h).2.2 78 = (20, 6, fun i => .int (r.2.2.1 78 i)) := rfl
theorem pr_79 (r : rS) (h : pheap) : (putR r h).2.2 79 = (21, 36, fun i => .long (r.2.2.2 79 i)) := rfl
theorem pr_80 (r : rS) (h : pheap) : (putR r h).2.2 80 = (20, 36, fun i => .int (r.2.2.1 80 i)) := rfl
theorem pr_81 (r : rS) (h : pheap) : (putR r h).2.2 81 = (21, 8, fun i => .long (r.2.2.2 81 i)) := rfl
theorem pr_82 (r : rS) (h : pheap) : (putR r h).2.2 82 = (20, 8, fun i => .int (r.2.2.1 82 i)) := rfl
theorem pr_83 (r : rS) (h : pheap) : (putR r h).2.2 83 = (21, 64, fun i => .long (r.2.2.2 83 i)) := rfl
theorem pr_84 (r : rS) (h : pheap) : (putR r h).2.2 84 = (20, 64, fun i => .int (r.2.2.1 84 i)) := rfl
theorem pr_85 (r : rS) (h : pheap) : (putR r h).2.2 85 = (20, 64, fun i => .int (r.2.2.1 85 i)) := rfl
theorem pr_86 (r : rS) (h : pheap) : (putR r h).2.2 86 = (20, 192, fun i => .int (r.2.2.1 86 i)) := rfl
theorem pr_87 (r : rS) (h : pheap) : (putR r h).2.2 87 = (21, 790, fun i => .long (r.2.2.2 87 i)) := rfl
theorem pr_88 (r : rS) (h : pheap) : (putR r h).2.2 88 = (20, 790, fun i => .int (r.2.2.1 88 i)) := rfl
theorem pr_89 (r : rS) (h : pheap) : (putR r h).2.2 89 = (20, 12640, fun i => .int (r.2.2.1 89 i)) := rfl
theorem pr_90 (r : rS) (h : pheap) : (putR r h).2.2 90 = (20, 16, fun i => .int (r.2.2.1 90 i)) := rfl
theorem pr_91 (r : rS) (h : pheap) : (putR r h).2.2 91 = (20, 3, fun i => .int (r.2.2.1 91 i)) := rfl
theorem pr_92 (r : rS) (h : pheap) : (putR r h).2.2 92 = (20, 60, fun i => .int (r.2.2.1 92 i)) := rfl
theorem pr_93 (r : rS) (h : pheap) : (putR r h).2.2 93 = (20, 8, fun i => .int (r.2.2.1 93 i)) := rfl
theorem pr_94 (r : rS) (h : pheap) : (putR r h).2.2 94 = (23, 72, fun i => .int (r.2.2.1 94 i)) := rfl
theorem pr_95 (r : rS) (h : pheap) : (putR r h).2.2 95 = (20, 192, fun i => .int (r.2.2.1 95 i)) := rfl
theorem pr_96 (r : rS) (h : pheap) : (putR r h).2.2 96 = (20, 32, fun i => .int (r.2.2.1 96 i)) := rfl
theorem pr_97 (r : rS) (h : pheap) : (putR r h).2.2 97 = (20, 8, fun i => .int (r.2.2.1 97 i)) := rfl
theorem pr_98 (r : rS) (h : pheap) : (putR r h).2.2 98 = (20, 8, fun i => .int (r.2.2.1 98 i)) := rfl
theorem pr_99 (r : rS) (h : pheap) : (putR r h).2.2 99 = (20, 8, fun i => .int (r.2.2.1 99 i)) := rfl
theorem pr_100 (r : rS) (h : pheap) : (putR r h).2.2 100 = (20, 24, fun i => .int (r.2.2.1 100 i)) := rfl
theorem pr_101 (r : rS) (h : pheap) : (putR r h).2.2 101 = (20, 24, fun i => .int (r.2.2.1 101 i)) := rfl
theorem pr_102 (r : rS) (h : pheap) : (putR r h).2.2 102 = (20, 24, fun i => .int (r.2.2.1 102 i)) := rfl
theorem pr_103 (r : rS) (h : pheap) : (putR r h).2.2 103 = (20, 24, fun i => .int (r.2.2.1 103 i)) := rfl
theorem pr_104 (r : rS) (h : pheap) : (putR r h).2.2 104 = (20, 24, fun i => .int (r.2.2.1 104 i)) := rfl
theorem pr_105 (r : rS) (h : pheap) : (putR r h).2.2 105 = (20, 24, fun i => .int (r.2.2.1 105 i)) := rfl
theorem pr_106 (r : rS) (h : pheap) : (putR r h).2.2 106 = (21, 24, fun i => .long (r.2.2.2 106 i)) := rfl
theorem pr_107 (r : rS) (h : pheap) : (putR r h).2.2 107 = (20, 24, fun i => .int (r.2.2.1 107 i)) := rfl
theorem pr_108 (r : rS) (h : pheap) : (putR r h).2.2 108 = (20, 16, fun i => .int (r.2.2.1 108 i)) := rfl
theorem pr_109 (r : rS) (h : pheap) : (putR r h).2.2 109 = (20, 16, fun i => .int (r.2.2.1 109 i)) := rfl
theorem pr_110 (r : rS) (h : pheap) : (putR r h).2.2 110 = (20, 16, fun i => .int (r.2.2.1 110 i)) := rfl
theorem pr_111 (r : rS) (h : pheap) : (putR r h).2.2 111 = (20, 32, fun i => .int (r.2.2.1 111 i)) := rfl
theorem pr_112 (r : rS) (h : pheap) : (putR r h).2.2 112 = (20, 16, fun i => .int (r.2.2.1 112 i)) := rfl
theorem pr_113 (r : rS) (h : pheap) : (putR r h).2.2 113 = (20, 16, fun i => .int (r.2.2.1 113 i)) := rfl
theorem pr_114 (r : rS) (h : pheap) : (putR r h).2.2 114 = (20, 60, fun i => .int (r.2.2.1 114 i)) := rfl
theorem pr_115 (r : rS) (h : pheap) : (putR r h).2.2 115 = (20, 60, fun i => .int (r.2.2.1 115 i)) := rfl
theorem pr_116 (r : rS) (h : pheap) : (putR r h).2.2 116 = (20, 60, fun i => .int (r.2.2.1 116 i)) := rfl
theorem pr_117 (r : rS) (h : pheap) : (putR r h).2.2 117 = (20, 60, fun i => .int (r.2.2.1 117 i)) := rfl
theorem pr_118 (r : rS) (h : pheap) : (putR r h).2.2 118 = (20, 60, fun i => .int (r.2.2.1 118 i)) := rfl
theorem pr_119 (r : rS) (h : pheap) : (putR r h).2.2 119 = (20, 60, fun i => .int (r.2.2.1 119 i)) := rfl
theorem pr_120 (r : rS) (h : pheap) : (putR r h).2.2 120 = (23, 60, fun i => .int (r.2.2.1 120 i)) := rfl
theorem pr_121 (r : rS) (h : pheap) : (putR r h).2.2 121 = (20, 60, fun i => .int (r.2.2.1 121 i)) := rfl
theorem pr_122 (r : rS) (h : pheap) : (putR r h).2.2 122 = (20, 60, fun i => .int (r.2.2.1 122 i)) := rfl
theorem pr_123 (r : rS) (h : pheap) : (putR r h).2.2 123 = (20, 14400, fun i => .int (r.2.2.1 123 i)) := rfl
theorem pr_124 (r : rS) (h : pheap) : (putR r h).2.2 124 = (20, 60, fun i => .int (r.2.2.1 124 i)) := rfl
theorem pr_125 (r : rS) (h : pheap) : (putR r h).2.2 125 = (23, 60, fun i => .int (r.2.2.1 125 i)) := rfl
theorem pr_126 (r : rS) (h : pheap) : (putR r h).2.2 126 = (23, 60, fun i => .int (r.2.2.1 126 i)) := rfl
theorem pr_127 (r : rS) (h : pheap) : (putR r h).2.2 127 = (20, 14400, fun i => .int (r.2.2.1 127 i)) := rfl
theorem pr_128 (r : rS) (h : pheap) : (putR r h).2.2 128 = (20, 60, fun i => .int (r.2.2.1 128 i)) := rfl
theorem pr_129 (r : rS) (h : pheap) : (putR r h).2.2 129 = (20, 60, fun i => .int (r.2.2.1 129 i)) := rfl
theorem pr_130 (r : rS) (h : pheap) : (putR r h).2.2 130 = (23, 60, fun i => .int (r.2.2.1 130 i)) := rfl
theorem pr_131 (r : rS) (h : pheap) : (putR r h).2.2 131 = (20, 61, fun i => .int (r.2.2.1 131 i)) := rfl
theorem pr_132 (r : rS) (h : pheap) : (putR r h).2.2 132 = (20, 3660, fun i => .int (r.2.2.1 132 i)) := rfl
theorem pr_133 (r : rS) (h : pheap) : (putR r h).2.2 133 = (20, 64, fun i => .int (r.2.2.1 133 i)) := rfl
theorem pr_134 (r : rS) (h : pheap) : (putR r h).2.2 134 = (20, 240, fun i => .int (r.2.2.1 134 i)) := rfl
theorem pr_135 (r : rS) (h : pheap) : (putR r h).2.2 135 = (20, 12, fun i => .int (r.2.2.1 135 i)) := rfl
theorem pr_136 (r : rS) (h : pheap) : (putR r h).2.2 136 = (20, 100, fun i => .int (r.2.2.1 136 i)) := rfl
theorem pr_137 (r : rS) (h : pheap) : (putR r h).2.2 137 = (20, 100, fun i => .int (r.2.2.1 137 i)) := rfl
theorem pr_138 (r : rS) (h : pheap) : (putR r h).2.2 138 = (20, 12, fun i => .int (r.2.2.1 138 i)) := rfl
theorem pr_139 (r : rS) (h : pheap) : (putR r h).2.2 139 = (20, 1320, fun i => .int (r.2.2.1 139 i)) := rfl
theorem pr_140 (r : rS) (h : pheap) : (putR r h).2.2 140 = (20, 41, fun i => .int (r.2.2.1 140 i)) := rfl
theorem pr_141 (r : rS) (h : pheap) : (putR r h).2.2 141 = (20, 28800, fun i => .int (r.2.2.1 141 i)) := rfl
theorem pr_142 (r : rS) (h : pheap) : (putR r h).2.2 142 = (20, 1200, fun i => .int (r.2.2.1 142 i)) := rfl
theorem pr_143 (r : rS) (h : pheap) : (putR r h).2.2 143 = (20, 120, fun i => .int (r.2.2.1 143 i)) := rfl
theorem pr_144 (r : rS) (h : pheap) : (putR r h).2.2 144 = (20, 120, fun i => .int (r.2.2.1 144 i)) := rfl
theorem pr_145 (r : rS) (h : pheap) : (putR r h).2.2 145 = (20, 60, fun i => .int (r.2.2.1 145 i)) := rfl
theorem rf_0 (r : rS) : rfv r 0 = .ref 74 := rfl
theorem rf_1 (r : rS) : rfv r 1 = .int (r.1 1) := rfl
theorem hI_1 (r : rS) (h : pheap) {x : Int32} : hset (putR r h) 73 1 (.int x) = putR (sI r 1 x) h := hset_I r h (by decide) (by decide)
theorem rf_2 (r : rS) : rfv r 2 = .int (r.1 2) := rfl
theorem hI_2 (r : rS) (h : pheap) {x : Int32} : hset (putR r h) 73 2 (.int x) = putR (sI r 2 x) h := hset_I r h (by decide) (by decide)
theorem rf_3 (r : rS) : rfv r 3 = .int (r.1 3) := rfl
theorem hI_3 (r : rS) (h : pheap) {x : Int32} : hset (putR r h) 73 3 (.int x) = putR (sI r 3 x) h := hset_I r h (by decide) (by decide)
theorem rf_4 (r : rS) : rfv r 4 = .int (r.1 4) := rfl
theorem hI_4 (r : rS) (h : pheap) {x : Int32} : hset (putR r h) 73 4 (.int x) = putR (sI r 4 x) h := hset_I r h (by decide) (by decide)
theorem rf_5 (r : rS) : rfv r 5 = .int (r.1 5) := rfl
theorem hI_5 (r : rS) (h : pheap) {x : Int32} : hset (putR r h) 73 5 (.int x) = putR (sI r 5 x) h := hset_I r h (by decide) (by decide)
theorem rf_6 (r : rS) : rfv r 6 = .int (r.1 6) := rfl
theorem hI_6 (r : rS) (h : pheap) {x : Int32} : hset (putR r h) 73 6 (.int x) = putR (sI r 6 x) h := hset_I r h (by decide) (by decide)
theorem rf_7 (r : rS) : rfv r 7 = .int (r.1 7) := rfl
theorem hI_7 (r : rS) (h : pheap) {x : Int32} : hset (putR r h) 73 7 (.int x) = putR (sI r 7 x) h := hset_I r h (by decide) (by decide)
theorem rf_8 (r : rS) : rfv r 8 = .long r.2.1 := rfl
theorem rf_9 (r : rS) : rfv r 9 = .ref 75 := rfl
theorem rf_10 (r : rS) : rfv r 10 = .ref 76 := rfl
theorem rf_11 (r : rS) : rfv r 11 = .int (r.1 11) := rfl
theorem hI_11 (r : rS) (h : pheap) {x : Int32} : hset (putR r h) 73 11 (.int x) = putR (sI r 11 x) h := hset_I r h (by decide) (by decide)
theorem rf_12 (r : rS) : rfv r 12 = .ref 77 := rfl
theorem rf_13 (r : rS) : rfv r 13 = .ref 78 := rfl
theorem rf_14 (r : rS) : rfv r 14 = .ref 79 := rfl
theorem rf_15 (r : rS) : rfv r 15 = .ref 80 := rfl
theorem rf_16 (r : rS) : rfv r 16 = .int (r.1 16) := rfl
theorem hI_16 (r : rS) (h : pheap) {x : Int32} : hset (putR r h) 73 16 (.int x) = putR (sI r 16 x) h := hset_I r h (by decide) (by decide)
theorem rf_17 (r : rS) : rfv r 17 = .ref 81 := rfl
theorem rf_18 (r : rS) : rfv r 18 = .ref 82 := rfl
theorem rf_19 (r : rS) : rfv r 19 = .ref 83 := rfl
theorem rf_20 (r : rS) : rfv r 20 = .ref 84 := rfl
theorem rf_21 (r : rS) : rfv r 21 = .ref 85 := rfl
theorem rf_22 (r : rS) : rfv r 22 = .ref 86 := rfl
theorem rf_23 (r : rS) : rfv r 23 = .int (r.1 23) := rfl
theorem hI_23 (r : rS) (h : pheap) {x : Int32} : hset (putR r h) 73 23 (.int x) = putR (sI r 23 x) h := hset_I r h (by decide) (by decide)
theorem rf_24 (r : rS) : rfv r 24 = .ref 87 := rfl
theorem rf_25 (r : rS) : rfv r 25 = .ref 88 := rfl
theorem rf_26 (r : rS) : rfv r 26 = .ref 89 := rfl
theorem rf_27 (r : rS) : rfv r 27 = .ref 90 := rfl
theorem rf_28 (r : rS) : rfv r 28 = .int (r.1 28) := rfl
theorem hI_28 (r : rS) (h : pheap) {x : Int32} : hset (putR r h) 73 28 (.int x) = putR (sI r 28 x) h := hset_I r h (by decide) (by decide)
theorem rf_29 (r : rS) : rfv r 29 = .ref 91 := rfl
theorem rf_30 (r : rS) : rfv r 30 = .int (r.1 30) := rfl
theorem hI_30 (r : rS) (h : pheap) {x : Int32} : hset (putR r h) 73 30 (.int x) = putR (sI r 30 x) h := hset_I r h (by decide) (by decide)
theorem rf_31 (r : rS) : rfv r 31 = .ref 92 := rfl
theorem rf_32 (r : rS) : rfv r 32 = .int (r.1 32) := rfl
theorem hI_32 (r : rS) (h : pheap) {x : Int32} : hset (putR r h) 73 32 (.int x) = putR (sI r 32 x) h := hset_I r h (by decide) (by decide)
theorem rf_33 (r : rS) : rfv r 33 = .int (r.1 33) := rfl
theorem hI_33 (r : rS) (h : pheap) {x : Int32} : hset (putR r h) 73 33 (.int x) = putR (sI r 33 x) h := hset_I r h (by decide) (by decide)
theorem rf_34 (r : rS) : rfv r 34 = .ref 93 := rfl
theorem rf_35 (r : rS) : rfv r 35 = .ref 94 := rfl
theorem rf_36 (r : rS) : rfv r 36 = .ref 95 := rfl
theorem rf_37 (r : rS) : rfv r 37 = .ref 96 := rfl
theorem rf_38 (r : rS) : rfv r 38 = .ref 97 := rfl
theorem rf_39 (r : rS) : rfv r 39 = .ref 98 := rfl
theorem rf_40 (r : rS) : rfv r 40 = .ref 99 := rfl
theorem rf_41 (r : rS) : rfv r 41 = .int (r.1 41) := rfl
theorem hI_41 (r : rS) (h : pheap) {x : Int32} : hset (putR r h) 73 41 (.int x) = putR (sI r 41 x) h := hset_I r h (by decide) (by decide)
theorem rf_42 (r : rS) : rfv r 42 = .ref 100 := rfl
theorem rf_43 (r : rS) : rfv r 43 = .ref 101 := rfl
theorem rf_44 (r : rS) : rfv r 44 = .ref 102 := rfl
theorem rf_45 (r : rS) : rfv r 45 = .ref 103 := rfl
theorem rf_46 (r : rS) : rfv r 46 = .ref 104 := rfl
theorem rf_47 (r : rS) : rfv r 47 = .ref 105 := rfl
theorem rf_48 (r : rS) : rfv r 48 = .ref 106 := rfl
theorem rf_49 (r : rS) : rfv r 49 = .ref 107 := rfl
theorem rf_50 (r : rS) : rfv r 50 = .int (r.1 50) := rfl
theorem hI_50 (r : rS) (h : pheap) {x : Int32} : hset (putR r h) 73 50 (.int x) = putR (sI r 50 x) h := hset_I r h (by decide) (by decide)
theorem rf_51 (r : rS) : rfv r 51 = .ref 108 := rfl
theorem rf_52 (r : rS) : rfv r 52 = .ref 109 := rfl
theorem rf_53 (r : rS) : rfv r 53 = .ref 110 := rfl
theorem rf_54 (r : rS) : rfv r 54 = .ref 111 := rfl
theorem rf_55 (r : rS) : rfv r 55 = .ref 112 := rfl
theorem rf_56 (r : rS) : rfv r 56 = .ref 113 := rfl
theorem rf_57 (r : rS) : rfv r 57 = .int (r.1 57) := rfl
theorem hI_57 (r : rS) (h : pheap) {x : Int32} : hset (putR r h) 73 57 (.int x) = putR (sI r 57 x) h := hset_I r h (by decide) (by decide)
theorem rf_58 (r : rS) : rfv r 58 = .ref 114 := rfl
theorem rf_59 (r : rS) : rfv r 59 = .ref 115 := rfl
theorem rf_60 (r : rS) : rfv r 60 = .ref 116 := rfl
theorem rf_61 (r : rS) : rfv r 61 = .ref 117 := rfl
theorem rf_62 (r : rS) : rfv r 62 = .ref 118 := rfl
theorem rf_63 (r : rS) : rfv r 63 = .ref 119 := rfl
theorem rf_64 (r : rS) : rfv r 64 = .ref 120 := rfl
theorem rf_65 (r : rS) : rfv r 65 = .ref 121 := rfl
theorem rf_66 (r : rS) : rfv r 66 = .ref 122 := rfl
theorem rf_67 (r : rS) : rfv r 67 = .ref 123 := rfl
theorem rf_68 (r : rS) : rfv r 68 = .ref 124 := rfl
theorem rf_69 (r : rS) : rfv r 69 = .ref 125 := rfl
theorem rf_70 (r : rS) : rfv r 70 = .ref 126 := rfl
theorem rf_71 (r : rS) : rfv r 71 = .ref 127 := rfl
theorem rf_72 (r : rS) : rfv r 72 = .ref 128 := rfl
theorem rf_73 (r : rS) : rfv r 73 = .ref 129 := rfl
theorem rf_74 (r : rS) : rfv r 74 = .ref 130 := rfl
theorem rf_75 (r : rS) : rfv r 75 = .int (r.1 75) := rfl
theorem hI_75 (r : rS) (h : pheap) {x : Int32} : hset (putR r h) 73 75 (.int x) = putR (sI r 75 x) h := hset_I r h (by decide) (by decide)
theorem rf_76 (r : rS) : rfv r 76 = .ref 131 := rfl
theorem rf_77 (r : rS) : rfv r 77 = .ref 132 := rfl
theorem rf_78 (r : rS) : rfv r 78 = .int (r.1 78) := rfl
theorem hI_78 (r : rS) (h : pheap) {x : Int32} : hset (putR r h) 73 78 (.int x) = putR (sI r 78 x) h := hset_I r h (by decide) (by decide)
theorem rf_79 (r : rS) : rfv r 79 = .ref 133 := rfl
theorem rf_80 (r : rS) : rfv r 80 = .ref 134 := rfl
theorem rf_81 (r : rS) : rfv r 81 = .int (r.1 81) := rfl
theorem hI_81 (r : rS) (h : pheap) {x : Int32} : hset (putR r h) 73 81 (.int x) = putR (sI r 81 x) h := hset_I r h (by decide) (by decide)
theorem rf_82 (r : rS) : rfv r 82 = .int (r.1 82) := rfl
theorem hI_82 (r : rS) (h : pheap) {x : Int32} : hset (putR r h) 73 82 (.int x) = putR (sI r 82 x) h := hset_I r h (by decide) (by decide)
theorem rf_83 (r : rS) : rfv r 83 = .ref 135 := rfl
theorem rf_84 (r : rS) : rfv r 84 = .int (r.1 84) := rfl
theorem hI_84 (r : rS) (h : pheap) {x : Int32} : hset (putR r h) 73 84 (.int x) = putR (sI r 84 x) h := hset_I r h (by decide) (by decide)
theorem rf_85 (r : rS) : rfv r 85 = .ref 136 := rfl
theorem rf_86 (r : rS) : rfv r 86 = .ref 137 := rfl
theorem rf_87 (r : rS) : rfv r 87 = .int (r.1 87) := rfl
theorem hI_87 (r : rS) (h : pheap) {x : Int32} : hset (putR r h) 73 87 (.int x) = putR (sI r 87 x) h := hset_I r h (by decide) (by decide)
theorem rf_88 (r : rS) : rfv r 88 = .int (r.1 88) := rfl
theorem hI_88 (r : rS) (h : pheap) {x : Int32} : hset (putR r h) 73 88 (.int x) = putR (sI r 88 x) h := hset_I r h (by decide) (by decide)
theorem rf_89 (r : rS) : rfv r 89 = .int (r.1 89) := rfl
theorem hI_89 (r : rS) (h : pheap) {x : Int32} : hset (putR r h) 73 89 (.int x) = putR (sI r 89 x) h := hset_I r h (by decide) (by decide)
theorem rf_90 (r : rS) : rfv r 90 = .int (r.1 90) := rfl
theorem hI_90 (r : rS) (h : pheap) {x : Int32} : hset (putR r h) 73 90 (.int x) = putR (sI r 90 x) h := hset_I r h (by decide) (by decide)
theorem rf_91 (r : rS) : rfv r 91 = .ref 138 := rfl
theorem rf_92 (r : rS) : rfv r 92 = .ref 139 := rfl
theorem rf_93 (r : rS) : rfv r 93 = .ref 140 := rfl
theorem rf_94 (r : rS) : rfv r 94 = .int (r.1 94) := rfl
theorem hI_94 (r : rS) (h : pheap) {x : Int32} : hset (putR r h) 73 94 (.int x) = putR (sI r 94 x) h := hset_I r h (by decide) (by decide)
theorem rf_95 (r : rS) : rfv r 95 = .int (r.1 95) := rfl
theorem hI_95 (r : rS) (h : pheap) {x : Int32} : hset (putR r h) 73 95 (.int x) = putR (sI r 95 x) h := hset_I r h (by decide) (by decide)
theorem rf_96 (r : rS) : rfv r 96 = .ref 141 := rfl
theorem rf_97 (r : rS) : rfv r 97 = .ref 142 := rfl
theorem rf_98 (r : rS) : rfv r 98 = .ref 143 := rfl
theorem rf_99 (r : rS) : rfv r 99 = .ref 144 := rfl
theorem rf_100 (r : rS) : rfv r 100 = .ref 145 := rfl
theorem hA_74 (r : rS) (h : pheap) {i : Nat} {x : Int32} : hset (putR r h) 74 i (.int x) = putR (sA r 74 i x) h := hset_A r h (by decide) (by decide) (by decide)
theorem hL_75 (r : rS) (h : pheap) {i : Nat} {x : Int64} : hset (putR r h) 75 i (.long x) = putR (sL r 75 i x) h := hset_L r h (by decide) (by decide) (by decide)
theorem hA_76 (r : rS) (h : pheap) {i : Nat} {x : Int32} : hset (putR r h) 76 i (.int x) = putR (sA r 76 i x) h := hset_A r h (by decide) (by decide) (by decide)
theorem hL_77 (r : rS) (h : pheap) {i : Nat} {x : Int64} : hset (putR r h) 77 i (.long x) = putR (sL r 77 i x) h := hset_L r h (by decide) (by decide) (by decide)
theorem hA_78 (r : rS) (h : pheap) {i : Nat} {x : Int32} : hset (putR r h) 78 i (.int x) = putR (sA r 78 i x) h := hset_A r h (by decide) (by decide) (by decide)
theorem hL_79 (r : rS) (h : pheap) {i : Nat} {x : Int64} : hset (putR r h) 79 i (.long x) = putR (sL r 79 i x) h := hset_L r h (by decide) (by decide) (by decide)
theorem hA_80 (r : rS) (h : pheap) {i : Nat} {x : Int32} : hset (putR r h) 80 i (.int x) = putR (sA r 80 i x) h := hset_A r h (by decide) (by decide) (by decide)
theorem hL_81 (r : rS) (h : pheap) {i : Nat} {x : Int64} : hset (putR r h) 81 i (.long x) = putR (sL r 81 i x) h := hset_L r h (by decide) (by decide) (by decide)
theorem hA_82 (r : rS) (h : pheap) {i : Nat} {x : Int32} : hset (putR r h) 82 i (.int x) = putR (sA r 82 i x) h := hset_A r h (by decide) (by decide) (by decide)
theorem hL_83 (r : rS) (h : pheap) {i : Nat} {x : Int64} : hset (putR r h) 83 i (.long x) = putR (sL r 83 i x) h := hset_L r h (by decide) (by decide) (by decide)
theorem hA_84 (r : rS) (h : pheap) {i : Nat} {x : Int32} : hset (putR r h) 84 i (.int x) = putR (sA r 84 i x) h := hset_A r h (by decide) (by decide) (by decide)
theorem hA_85 (r : rS) (h : pheap) {i : Nat} {x : Int32} : hset (putR r h) 85 i (.int x) = putR (sA r 85 i x) h := hset_A r h (by decide) (by decide) (by decide)
theorem hA_86 (r : rS) (h : pheap) {i : Nat} {x : Int32} : hset (putR r h) 86 i (.int x) = putR (sA r 86 i x) h := hset_A r h (by decide) (by decide) (by decide)
theorem hL_87 (r : rS) (h : pheap) {i : Nat} {x : Int64} : hset (putR r h) 87 i (.long x) = putR (sL r 87 i x) h := hset_L r h (by decide) (by decide) (by decide)
theorem hA_88 (r : rS) (h : pheap) {i : Nat} {x : Int32} : hset (putR r h) 88 i (.int x) = putR (sA r 88 i x) h := hset_A r h (by decide) (by decide) (by decide)
theorem hA_89 (r : rS) (h : pheap) {i : Nat} {x : Int32} : hset (putR r h) 89 i (.int x) = putR (sA r 89 i x) h := hset_A r h (by decide) (by decide) (by decide)
theorem hA_90 (r : rS) (h : pheap) {i : Nat} {x : Int32} : hset (putR r h) 90 i (.int x) = putR (sA r 90 i x) h := hset_A r h (by decide) (by decide) (by decide)
theorem hA_91 (r : rS) (h : pheap) {i : Nat} {x : Int32} : hset (putR r h) 91 i (.int x) = putR (sA r 91 i x) h := hset_A r h (by decide) (by decide) (by decide)
theorem hA_92 (r : rS) (h : pheap) {i : Nat} {x : Int32} : hset (putR r h) 92 i (.int x) = putR (sA r 92 i x) h := hset_A r h (by decide) (by decide) (by decide)
theorem hA_93 (r : rS) (h : pheap) {i : Nat} {x : Int32} : hset (putR r h) 93 i (.int x) = putR (sA r 93 i x) h := hset_A r h (by decide) (by decide) (by decide)
theorem hA_94 (r : rS) (h : pheap) {i : Nat} {x : Int32} : hset (putR r h) 94 i (.int x) = putR (sA r 94 i x) h := hset_A r h (by decide) (by decide) (by decide)
theorem hA_95 (r : rS) (h : pheap) {i : Nat} {x : Int32} : hset (putR r h) 95 i (.int x) = putR (sA r 95 i x) h := hset_A r h (by decide) (by decide) (by decide)
theorem hA_96 (r : rS) (h : pheap) {i : Nat} {x : Int32} : hset (putR r h) 96 i (.int x) = putR (sA r 96 i x) h := hset_A r h (by decide) (by decide) (by decide)
theorem hA_97 (r : rS) (h : pheap) {i : Nat} {x : Int32} : hset (putR r h) 97 i (.int x) = putR (sA r 97 i x) h := hset_A r h (by decide) (by decide) (by decide)
theorem hA_98 (r : rS) (h : pheap) {i : Nat} {x : Int32} : hset (putR r h) 98 i (.int x) = putR (sA r 98 i x) h := hset_A r h (by decide) (by decide) (by decide)
theorem hA_99 (r : rS) (h : pheap) {i : Nat} {x : Int32} : hset (putR r h) 99 i (.int x) = putR (sA r 99 i x) h := hset_A r h (by decide) (by decide) (by decide)
theorem hA_100 (r : rS) (h : pheap) {i : Nat} {x : Int32} : hset (putR r h) 100 i (.int x) = putR (sA r 100 i x) h := hset_A r h (by decide) (by decide) (by decide)
theorem hA_101 (r : rS) (h : pheap) {i : Nat} {x : Int32} : hset (putR r h) 101 i (.int x) = putR (sA r 101 i x) h := hset_A r h (by decide) (by decide) (by decide)
theorem hA_102 (r : rS) (h : pheap) {i : Nat} {x : Int32} : hset (putR r h) 102 i (.int x) = putR (sA r 102 i x) h := hset_A r h (by decide) (by decide) (by decide)
theorem hA_103 (r : rS) (h : pheap) {i : Nat} {x : Int32} : hset (putR r h) 103 i (.int x) = putR (sA r 103 i x) h := hset_A r h (by decide) (by decide) (by decide)
theorem hA_104 (r : rS) (h : pheap) {i : Nat} {x : Int32} : hset (putR r h) 104 i (.int x) = putR (sA r 104 i x) h := hset_A r h (by decide) (by decide) (by decide)
theorem hA_105 (r : rS) (h : pheap) {i : Nat} {x : Int32} : hset (putR r h) 105 i (.int x) = putR (sA r 105 i x) h := hset_A r h (by decide) (by decide) (by decide)
theorem hL_106 (r : rS) (h : pheap) {i : Nat} {x : Int64} : hset (putR r h) 106 i (.long x) = putR (sL r 106 i x) h := hset_L r h (by decide) (by decide) (by decide)
theorem hA_107 (r : rS) (h : pheap) {i : Nat} {x : Int32} : hset (putR r h) 107 i (.int x) = putR (sA r 107 i x) h := hset_A r h (by decide) (by decide) (by decide)
theorem hA_108 (r : rS) (h : pheap) {i : Nat} {x : Int32} : hset (putR r h) 108 i (.int x) = putR (sA r 108 i x) h := hset_A r h (by decide) (by decide) (by decide)
theorem hA_109 (r : rS) (h : pheap) {i : Nat} {x : Int32} : hset (putR r h) 109 i (.int x) = putR (sA r 109 i x) h := hset_A r h (by decide) (by decide) (by decide)
theorem hA_110 (r : rS) (h : pheap) {i : Nat} {x : Int32} : hset (putR r h) 110 i (.int x) = putR (sA r 110 i x) h := hset_A r h (by decide) (by decide) (by decide)
theorem hA_111 (r : rS) (h : pheap) {i : Nat} {x : Int32} : hset (putR r h) 111 i (.int x) = putR (sA r 111 i x) h := hset_A r h (by decide) (by decide) (by decide)
theorem hA_112 (r : rS) (h : pheap) {i : Nat} {x : Int32} : hset (putR r h) 112 i (.int x) = putR (sA r 112 i x) h := hset_A r h (by decide) (by decide) (by decide)
theorem hA_113 (r : rS) (h : pheap) {i : Nat} {x : Int32} : hset (putR r h) 113 i (.int x) = putR (sA r 113 i x) h := hset_A r h (by decide) (by decide) (by decide)
theorem hA_114 (r : rS) (h : pheap) {i : Nat} {x : Int32} : hset (putR r h) 114 i (.int x) = putR (sA r 114 i x) h := hset_A r h (by decide) (by decide) (by decide)
theorem hA_115 (r : rS) (h : pheap) {i : Nat} {x : Int32} : hset (putR r h) 115 i (.int x) = putR (sA r 115 i x) h := hset_A r h (by decide) (by decide) (by decide)
theorem hA_116 (r : rS) (h : pheap) {i : Nat} {x : Int32} : hset (putR r h) 116 i (.int x) = putR (sA r 116 i x) h := hset_A r h (by decide) (by decide) (by decide)
theorem hA_117 (r : rS) (h : pheap) {i : Nat} {x : Int32} : hset (putR r h) 117 i (.int x) = putR (sA r 117 i x) h := hset_A r h (by decide) (by decide) (by decide)
theorem hA_118 (r : rS) (h : pheap) {i : Nat} {x : Int32} : hset (putR r h) 118 i (.int x) = putR (sA r 118 i x) h := hset_A r h (by decide) (by decide) (by decide)
theorem hA_119 (r : rS) (h : pheap) {i : Nat} {x : Int32} : hset (putR r h) 119 i (.int x) = putR (sA r 119 i x) h := hset_A r h (by decide) (by decide) (by decide)
theorem hA_120 (r : rS) (h : pheap) {i : Nat} {x : Int32} : hset (putR r h) 120 i (.int x) = putR (sA r 120 i x) h := hset_A r h (by decide) (by decide) (by decide)
theorem hA_121 (r : rS) (h : pheap) {i : Nat} {x : Int32} : hset (putR r h) 121 i (.int x) = putR (sA r 121 i x) h := hset_A r h (by decide) (by decide) (by decide)
theorem hA_122 (r : rS) (h : pheap) {i : Nat} {x : Int32} : hset (putR r h) 122 i (.int x) = putR (sA r 122 i x) h := hset_A r h (by decide) (by decide) (by decide)
theorem hA_123 (r : rS) (h : pheap) {i : Nat} {x : Int32} : hset (putR r h) 123 i (.int x) = putR (sA r 123 i x) h := hset_A r h (by decide) (by decide) (by decide)
theorem hA_124 (r : rS) (h : pheap) {i : Nat} {x : Int32} : hset (putR r h) 124 i (.int x) = putR (sA r 124 i x) h := hset_A r h (by decide) (by decide) (by decide)
theorem hA_125 (r : rS) (h : pheap) {i : Nat} {x : Int32} : hset (putR r h) 125 i (.int x) = putR (sA r 125 i x) h := hset_A r h (by decide) (by decide) (by decide)
theorem hA_126 (r : rS) (h : pheap) {i : Nat} {x : Int32} : hset (putR r h) 126 i (.int x) = putR (sA r 126 i x) h := hset_A r h (by decide) (by decide) (by decide)
theorem hA_127 (r : rS) (h : pheap) {i : Nat} {x : Int32} : hset (putR r h) 127 i (.int x) = putR (sA r 127 i x) h := hset_A r h (by decide) (by decide) (by decide)
theorem hA_128 (r : rS) (h : pheap) {i : Nat} {x : Int32} : hset (putR r h) 128 i (.int x) = putR (sA r 128 i x) h := hset_A r h (by decide) (by decide) (by decide)
theorem hA_129 (r : rS) (h : pheap) {i : Nat} {x : Int32} : hset (putR r h) 129 i (.int x) = putR (sA r 129 i x) h := hset_A r h (by decide) (by decide) (by decide)
theorem hA_130 (r : rS) (h : pheap) {i : Nat} {x : Int32} : hset (putR r h) 130 i (.int x) = putR (sA r 130 i x) h := hset_A r h (by decide) (by decide) (by decide)
theorem hA_131 (r : rS) (h : pheap) {i : Nat} {x : Int32} : hset (putR r h) 131 i (.int x) = putR (sA r 131 i x) h := hset_A r h (by decide) (by decide) (by decide)
theorem hA_132 (r : rS) (h : pheap) {i : Nat} {x : Int32} : hset (putR r h) 132 i (.int x) = putR (sA r 132 i x) h := hset_A r h (by decide) (by decide) (by decide)
theorem hA_133 (r : rS) (h : pheap) {i : Nat} {x : Int32} : hset (putR r h) 133 i (.int x) = putR (sA r 133 i x) h := hset_A r h (by decide) (by decide) (by decide)
theorem hA_134 (r : rS) (h : pheap) {i : Nat} {x : Int32} : hset (putR r h) 134 i (.int x) = putR (sA r 134 i x) h := hset_A r h (by decide) (by decide) (by decide)
theorem hA_135 (r : rS) (h : pheap) {i : Nat} {x : Int32} : hset (putR r h) 135 i (.int x) = putR (sA r 135 i x) h := hset_A r h (by decide) (by decide) (by decide)
theorem hA_136 (r : rS) (h : pheap) {i : Nat} {x : Int32} : hset (putR r h) 136 i (.int x) = putR (sA r 136 i x) h := hset_A r h (by decide) (by decide) (by decide)
theorem hA_137 (r : rS) (h : pheap) {i : Nat} {x : Int32} : hset (putR r h) 137 i (.int x) = putR (sA r 137 i x) h := hset_A r h (by decide) (by decide) (by decide)
theorem hA_138 (r : rS) (h : pheap) {i : Nat} {x : Int32} : hset (putR r h) 138 i (.int x) = putR (sA r 138 i x) h := hset_A r h (by decide) (by decide) (by decide)
theorem hA_139 (r : rS) (h : pheap) {i : Nat} {x : Int32} : hset (putR r h) 139 i (.int x) = putR (sA r 139 i x) h := hset_A r h (by decide) (by decide) (by decide)
theorem hA_140 (r : rS) (h : pheap) {i : Nat} {x : Int32} : hset (putR r h) 140 i (.int x) = putR (sA r 140 i x) h := hset_A r h (by decide) (by decide) (by decide)
theorem hA_141 (r : rS) (h : pheap) {i : Nat} {x : Int32} : hset (putR r h) 141 i (.int x) = putR (sA r 141 i x) h := hset_A r h (by decide) (by decide) (by decide)
theorem hA_142 (r : rS) (h : pheap) {i : Nat} {x : Int32} : hset (putR r h) 142 i (.int x) = putR (sA r 142 i x) h := hset_A r h (by decide) (by decide) (by decide)
theorem hA_143 (r : rS) (h : pheap) {i : Nat} {x : Int32} : hset (putR r h) 143 i (.int x) = putR (sA r 143 i x) h := hset_A r h (by decide) (by decide) (by decide)
theorem hA_144 (r : rS) (h : pheap) {i : Nat} {x : Int32} : hset (putR r h) 144 i (.int x) = putR (sA r 144 i x) h := hset_A r h (by decide) (by decide) (by decide)
theorem hA_145 (r : rS) (h : pheap) {i : Nat} {x : Int32} : hset (putR r h) 145 i (.int x) = putR (sA r 145 i x) h := hset_A r h (by decide) (by decide) (by decide)
