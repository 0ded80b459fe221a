/-! what the class's heap and the reference have in common. The ghost: counts and rows of numbers; what a Value has (sort, number, text); what a row of bytes or a tree has; what a cell is for -/
abbrev gS : Type := (Nat → Nat → Nat) × (Nat → Int32 × Int64 × Nat) × (Nat → Nat × (Nat → Int32)) × (Nat → Nat × Nat) × (Nat → Nat) × (Nat → Nat → Nat)
def gL (g : gS) (a i v : Nat) : gS := (upN g.1 a (upN (g.1 a) i v), g.2)
def gV (g : gS) (a : Nat) (w : Int32 × Int64 × Nat) : gS := (g.1, upN g.2.1 a w, g.2.2)
def gA (g : gS) (a : Nat) (w : Nat × (Nat → Int32)) : gS := (g.1, g.2.1, upN g.2.2.1 a w, g.2.2.2)
def gR (g : gS) (a : Nat) (c : Nat × Nat) : gS := (g.1, g.2.1, g.2.2.1, upN g.2.2.2.1 a c, g.2.2.2.2)
def gF (g : gS) (a : Nat) (f : Nat → Nat) : gS := (g.1, g.2.1, g.2.2.1, g.2.2.2.1, g.2.2.2.2.1, upN g.2.2.2.2.2 a f)
def gM (g : gS) (k v : Nat) : gS := (g.1, g.2.1, g.2.2.1, g.2.2.2.1, upN g.2.2.2.2.1 k v, g.2.2.2.2.2)
def gN (g : gS) (a i v : Nat) : gS := (g.1, g.2.1, g.2.2.1, g.2.2.2.1, g.2.2.2.2.1, upN g.2.2.2.2.2 a (upN (g.2.2.2.2.2 a) i v))
def pv (a : Nat) : Value := if a = 0 then .null else .ref a
def sb (u : Int32) : Int32 := u.toInt8.toInt32
def isB (u : Int32) : Prop := ∃ n, n < 256 ∧ u = nI n
def okP (ro : Nat → Nat × Nat) (n p : Nat) (c : Nat × Nat) : Prop := 146 ≤ p ∧ p < n ∧ ro p = c
/-- which cell is for what -/
def Ref0 (g : gS) (x2 : Nat → Nat) (p : Nat) (c : Nat × Nat) : Prop :=
  (∃ i, i < (g.1 0 3) ∧ ((p = (g.1 4) i ∧ c = (9, i)) ∨ (p = (g.1 4) i + 1 ∧ c = (10, i)) ∨ (p = (g.1 4) i + 2 ∧ c = (11, i)) ∨ (p = (g.1 4) i + 3 ∧ c = (12, i)))) ∨
  (∃ o, o < (g.1 0 4) ∧ p = (g.1 5) o ∧ c = (13, o)) ∨
  (∃ m, m < (g.1 0 1) ∧ ((p = (g.1 2) m ∧ c = (5, m)) ∨ (p = (g.1 2) m + 1 ∧ c = (6, m)) ∨ ∃ k, k < (g.2.2.2.2.2 8) ((g.2.2.2.2.2 11) m) ∧ p = (g.2.2.2.2.2 7) (6 * m + k) ∧ c = (1, 0))) ∨
  (∃ f, f < (g.1 0 2) ∧ ((p = (g.1 3) f ∧ c = (7, f)) ∨ (p = (g.1 3) f + 1 ∧ c = (8, f)))) ∨
  (∃ k, k < (g.1 0 0) ∧ p = (g.1 1) k ∧ c = (1, 0)) ∨
  (∃ k, k < (g.1 0 5) ∧ ((p = (g.1 6) k ∧ c = (14, k)) ∨ ((g.2.2.2.2.2 19) k ≠ 0 ∧ p = (g.2.2.2.2.2 19) k ∧ c = (2, 0)) ∨ ((g.2.2.2.2.2 20) k ≠ 0 ∧ p = (g.2.2.2.2.2 20) k ∧ c = (2, 0)) ∨ ((g.2.2.2.2.2 21) k ≠ 0 ∧ p = (g.2.2.2.2.2 21) k ∧ c = (1, 0)) ∨ ((g.2.2.2.2.2 22) k ≠ 0 ∧ p = (g.2.2.2.2.2 22) k ∧ c = (3, 0)))) ∨
  (∃ j, j < 120 ∧ (g.2.2.2.2.2 23) j ≠ 0 ∧ ((p = (g.2.2.2.2.2 23) j ∧ c = (15, j)) ∨ (p = (g.2.2.2.2.2 23) j + 1 ∧ c = (16, j)) ∨ (p = (g.2.2.2.2.2 23) j + 2 ∧ c = (17, j)))) ∨
  (∃ q, 1 ≤ q ∧ q < 7 ∧ x2 q ≠ 1 ∧ p = x2 q ∧ c = (4, q)) ∨
  (∃ j, j < 11 ∧ x2 0 ≠ 7 ∧ p = x2 0 + j ∧ c = (18, j))
def PF (g : gS) (x2 : Nat → Nat) (n : Nat) : Prop := (∀ p c, Ref0 g x2 p c → okP g.2.2.2.1 n p c) ∧ (∀ a, (g.2.2.2.1 a).1 = 1 → (g.2.1 a).2.2 ≠ 0 → okP g.2.2.2.1 n (g.2.1 a).2.2 (2, 0)) ∧ ∀ b, 4 ≤ (g.2.2.2.1 b).1 → Ref0 g x2 b (g.2.2.2.1 b)
/-! what a cell has -/
def cVal (w : Int32 × Int64 × Nat) (c : pcell) : Prop := c.1 = 9 ∧ c.2.2 0 = .int w.1 ∧ c.2.2 1 = .long w.2.1 ∧ c.2.2 2 = pv w.2.2
def cRow (t : Nat) (w : Nat × (Nat → Int32)) (c : pcell) : Prop := c.1 = t ∧ c.2.1 = w.1 ∧ w.1 ≤ 1000 ∧ ∀ k, k < w.1 → c.2.2 k = .int (w.2 k)
def cEl (n : Nat) (p : Nat → Nat) (c : pcell) : Prop := c.1 = 24 ∧ n ≤ c.2.1 ∧ (1 ≤ c.2.1 ∧ c.2.1 ≤ 100) ∧ ∀ k, k < n → c.2.2 k = .ref (p k)
def cNod (b rc : Nat) (c : pcell) : Prop := c.1 = 7 ∧ c.2.2 0 = .int (nI rc) ∧ c.2.2 1 = .ref (b + 1)
def cNfl (n : Nat) (p : Nat → Nat) (c : pcell) : Prop := c.1 = 25 ∧ c.2.1 = n ∧ ∀ k, k < n → c.2.2 k = .ref (p k)
def cFai (b : Nat) (kd nt : Int32) (cz bm : Nat) (c : pcell) : Prop := c.1 = 5 ∧ c.2.2 0 = .int kd ∧ c.2.2 1 = .int nt ∧ c.2.2 2 = pv cz ∧ c.2.2 3 = .ref (b + 1) ∧ c.2.2 4 = .int (nI bm)
def cFbs (n : Nat) (p : Nat → Nat) (c : pcell) : Prop := c.1 = 26 ∧ c.2.1 = 2 ∧ ∀ k, k < n → c.2.2 k = .ref (p k)
def cDsk (b i : Nat) (ag se rp tk : Int32) (c : pcell) : Prop := c.1 = 4 ∧ c.2.2 0 = .int (nI i) ∧ c.2.2 1 = .int ag ∧ c.2.2 2 = .int se ∧ c.2.2 3 = .int rp ∧ c.2.2 4 = .int tk ∧ c.2.2 5 = .ref (b + 1) ∧ c.2.2 6 = .ref (b + 2) ∧ c.2.2 7 = .ref (b + 3)
def cInts (t n : Nat) (f : Nat → Int32) (c : pcell) : Prop := c.1 = t ∧ c.2.1 = n ∧ ∀ k, k < n → c.2.2 k = .int (f k)
def cThg (o dk sv : Nat) (dd wi wm : Int32) (to : Int64) (kp dc : Int32) (c : pcell) : Prop := c.1 = 8 ∧ c.2.2 0 = .int (nI o) ∧ c.2.2 1 = .ref dk ∧ c.2.2 2 = .int (nI sv) ∧ c.2.2 3 = .int dd ∧ c.2.2 4 = .int wi ∧ c.2.2 5 = .int wm ∧ c.2.2 6 = .long to ∧ c.2.2 7 = .int kp ∧ c.2.2 8 = .int dc
def cCal (k ca sv th cm ou : Nat) (bo st se bg mv : Int32) (rq sh vl tr i0 i1 : Nat) (c : pcell) : Prop := c.1 = 3 ∧ c.2.2 0 = .int (nI k) ∧ c.2.2 1 = .ref ca ∧ c.2.2 2 = .ref sv ∧ c.2.2 3 = pv th ∧ c.2.2 4 = .int (nI cm) ∧ c.2.2 5 = pv ou ∧ c.2.2 6 = .int bo ∧ c.2.2 7 = .int st ∧ c.2.2 8 = .int se ∧ c.2.2 9 = .int bg ∧ c.2.2 10 = .int mv ∧ c.2.2 11 = pv rq ∧ c.2.2 12 = pv sh ∧ c.2.2 13 = pv vl ∧ c.2.2 14 = pv tr ∧ c.2.2 15 = pv i0 ∧ c.2.2 16 = pv i1
/-- the bits of a number, how many of the first ten are set -/
def bt (n p : Nat) : Bool := n.testBit p
def pcn (n : Nat) : Nat := ((List.range 10).filter (bt n)).length
def cInc (b of bits : Nat) (sz : Nat → Nat) (c : pcell) : Prop := c.1 = 6 ∧ c.2.2 0 = .int (nI (pcn bits)) ∧ (∃ u, c.2.2 1 = .int u) ∧ (∃ u, c.2.2 2 = .int u) ∧ (∃ u, c.2.2 3 = .int u ∧ (bits ≠ 0 → u = nI of)) ∧ (∃ u, c.2.2 4 = .int u ∧ (bt bits (of - 1) = true → u = nI (24 * (of - 1) + sz (of - 1)))) ∧ (∃ u, c.2.2 5 = .int u) ∧ c.2.2 6 = .ref (b + 1) ∧ c.2.2 7 = .ref (b + 2)
def cIby (bits : Nat) (sz : Nat → Nat) (f : Nat → Int32) (c : pcell) : Prop := c.1 = 22 ∧ c.2.1 = 240 ∧ (∀ k, k < 240 → ∃ u, c.2.2 k = .int u) ∧ ∀ p, p < 10 → bt bits p = true → ∀ k, k < sz p → c.2.2 (24 * p + k) = .int (sb (f (24 * p + k)))
/-- the book's cells: 0 the object at b, then its rows -/
def cBk (b : Nat) (kn rn sn : Nat) (fc mc wa : Nat → Nat) (ko fs ms ws : Nat → Int32) (j : Nat) (c : pcell) : Prop :=
  (j = 0 → c.1 = 1 ∧ c.2.2 0 = .int (nI (kn - 1)) ∧ c.2.2 1 = .int (nI rn) ∧ c.2.2 2 = .int (nI sn) ∧ c.2.2 6 = .ref (b + 4) ∧ c.2.2 7 = .ref (b + 5) ∧ c.2.2 8 = .ref (b + 6) ∧ c.2.2 9 = .ref (b + 7) ∧ c.2.2 10 = .ref (b + 8) ∧ c.2.2 11 = .ref (b + 9) ∧ c.2.2 12 = .ref (b + 10)) ∧
  (j = 4 → c.1 = 20 ∧ c.2.1 = 9 ∧ ∀ k, k < kn → c.2.2 k = .int (ko k)) ∧
  (j = 5 → c.1 = 20 ∧ c.2.1 = 6 ∧ ∀ k, k < rn → c.2.2 k = .int (nI (fc k))) ∧
  (j = 6 → c.1 = 20 ∧ c.2.1 = 36 ∧ ∀ k, k < rn → ∀ i, i < fc k → c.2.2 (6 * k + i) = .int (fs (6 * k + i))) ∧
  (j = 7 → c.1 = 20 ∧ c.2.1 = 8 ∧ ∀ k, k < sn → c.2.2 k = .int (nI (mc k))) ∧
  (j = 8 → c.1 = 20 ∧ c.2.1 = 64 ∧ ∀ k, k < sn → ∀ i, i < mc k → c.2.2 (8 * k + i) = .int (ms (8 * k + i))) ∧
  (j = 9 → c.1 = 20 ∧ c.2.1 = 64 ∧ ∀ k, k < sn → ∀ i, i < mc k → c.2.2 (8 * k + i) = .int (nI (wa (8 * k + i)))) ∧
  (j = 10 → c.1 = 20 ∧ c.2.1 = 192 ∧ ∀ k, k < sn → ∀ i, i < mc k → ∀ a, a < wa (8 * k + i) → c.2.2 (3 * (8 * k + i) + a) = .int (ws (3 * (8 * k + i) + a)))
/-- a cell is what its role says -/
def Cell (g : gS) (r : rS) (xb : Nat) (b : Nat) (c : pcell) : Prop :=
  ((g.2.2.2.1 b).1 = 1 → cVal (g.2.1 b) c) ∧
  ((g.2.2.2.1 b).1 = 2 → cRow 22 (g.2.2.1 b) c) ∧
  ((g.2.2.2.1 b).1 = 3 → cRow 20 (g.2.2.1 b) c) ∧
  ((g.2.2.2.1 b).1 = 4 → cEl (g.1 0 ((g.2.2.2.1 b).2 - 1)) (g.1 (g.2.2.2.1 b).2) c) ∧
  ((g.2.2.2.1 b).1 = 5 → cNod b ((g.2.2.2.2.2 11) (g.2.2.2.1 b).2) c) ∧
  ((g.2.2.2.1 b).1 = 6 → cNfl ((g.2.2.2.2.2 8) ((g.2.2.2.2.2 11) (g.2.2.2.1 b).2)) (fun k => (g.2.2.2.2.2 7) (6 * (g.2.2.2.1 b).2 + k)) c) ∧
  ((g.2.2.2.1 b).1 = 7 → cFai b ((r.2.2.1 108) (g.2.2.2.1 b).2) ((r.2.2.1 109) (g.2.2.2.1 b).2) (if (g.2.2.2.2.2 24) (g.2.2.2.1 b).2 = 0 then 0 else (g.1 3) ((g.2.2.2.2.2 24) (g.2.2.2.1 b).2 - 1)) ((g.2.2.2.2.2 26) (g.2.2.2.1 b).2) c) ∧
  ((g.2.2.2.1 b).1 = 8 → cFbs ((g.2.2.2.2.2 26) (g.2.2.2.1 b).2) (fun k => (g.1 3) ((g.2.2.2.2.2 25) (2 * (g.2.2.2.1 b).2 + k))) c) ∧
  ((g.2.2.2.1 b).1 = 9 → cDsk b (g.2.2.2.1 b).2 ((r.2.2.1 93) (g.2.2.2.1 b).2) ((r.2.2.1 97) (g.2.2.2.1 b).2) ((r.2.2.1 98) (g.2.2.2.1 b).2) ((r.2.2.1 99) (g.2.2.2.1 b).2) c) ∧
  ((g.2.2.2.1 b).1 = 10 → cInts 20 24 (fun k => (r.2.2.1 95) (24 * (g.2.2.2.1 b).2 + k)) c) ∧
  ((g.2.2.2.1 b).1 = 11 → cInts 23 9 (fun k => if (r.2.2.1 94) (9 * (g.2.2.2.1 b).2 + k) = 0 then 1 else 0) c) ∧
  ((g.2.2.2.1 b).1 = 12 → cInts 20 4 (fun k => (r.2.2.1 96) (4 * (g.2.2.2.1 b).2 + k)) c) ∧
  ((g.2.2.2.1 b).1 = 13 → cThg (g.2.2.2.1 b).2 ((g.1 4) ((g.2.2.2.2.2 12) (g.2.2.2.1 b).2)) ((g.2.2.2.2.2 13) (g.2.2.2.1 b).2) ((r.2.2.1 102) (g.2.2.2.1 b).2) ((r.2.2.1 103) (g.2.2.2.1 b).2) ((r.2.2.1 104) (g.2.2.2.1 b).2) ((r.2.2.2 106) (g.2.2.2.1 b).2) ((r.2.2.1 107) (g.2.2.2.1 b).2) ((r.2.2.1 105) (g.2.2.2.1 b).2) c) ∧
  ((g.2.2.2.1 b).1 = 14 → cCal (g.2.2.2.1 b).2 ((g.1 4) ((g.2.2.2.2.2 14) (g.2.2.2.1 b).2)) ((g.1 4) ((g.2.2.2.2.2 15) (g.2.2.2.1 b).2)) (if (g.2.2.2.2.2 17) (g.2.2.2.1 b).2 = 0 then 0 else (g.1 5) ((g.2.2.2.2.2 17) (g.2.2.2.1 b).2 - 1)) ((g.2.2.2.2.2 16) (g.2.2.2.1 b).2) (if (g.2.2.2.2.2 18) (g.2.2.2.1 b).2 = 0 then 0 else (g.1 6) ((g.2.2.2.2.2 18) (g.2.2.2.1 b).2 - 1)) ((r.2.2.1 122) (g.2.2.2.1 b).2) ((r.2.2.1 118) (g.2.2.2.1 b).2) ((r.2.2.1 121) (g.2.2.2.1 b).2) ((r.2.2.1 125) (g.2.2.2.1 b).2) (if (r.2.2.1 130) (g.2.2.2.1 b).2 = 0 then 0 else (r.2.2.1 129) (g.2.2.2.1 b).2) ((g.2.2.2.2.2 19) (g.2.2.2.1 b).2) ((g.2.2.2.2.2 20) (g.2.2.2.1 b).2) ((g.2.2.2.2.2 21) (g.2.2.2.1 b).2) ((g.2.2.2.2.2 22) (g.2.2.2.1 b).2) ((g.2.2.2.2.2 23) (g.2.2.2.1 b).2) ((g.2.2.2.2.2 23) (60 + (g.2.2.2.1 b).2)) c) ∧
  ((g.2.2.2.1 b).1 = 15 → cInc b ((g.2.2.2.2.2 30) (g.2.2.2.1 b).2) ((g.2.2.2.2.2 31) (g.2.2.2.1 b).2) (fun p => (g.2.2.2.2.2 29) (10 * (g.2.2.2.1 b).2 + p)) c) ∧
  ((g.2.2.2.1 b).1 = 16 → cInts 23 10 (fun p => if bt ((g.2.2.2.2.2 31) (g.2.2.2.1 b).2) p = true then 1 else 0) c) ∧
  ((g.2.2.2.1 b).1 = 17 → cIby ((g.2.2.2.2.2 31) (g.2.2.2.1 b).2) (fun p => (g.2.2.2.2.2 29) (10 * (g.2.2.2.1 b).2 + p)) (fun k => (r.2.2.1 141) (240 * (g.2.2.2.1 b).2 + k)) c) ∧
  ((g.2.2.2.1 b).1 = 18 → cBk xb (g.2.2.2.2.1 1) (g.2.2.2.2.1 2) (g.2.2.2.2.1 3) ((g.2.2.2.2.2 8)) ((g.2.2.2.2.2 9)) ((g.2.2.2.2.2 10)) ((r.2.2.1 76)) ((r.2.2.1 80)) ((r.2.2.1 84)) ((r.2.2.1 86)) (g.2.2.2.1 b).2 c)
def HC (g : gS) (r : rS) (xb : Nat) (h : pheap) : Prop := ∀ b, 146 ≤ b → b < h.1 → Cell g r xb b (h.2.2 b)
/-- the book that the class begins with -/
def BK7 (g : gS) (r : rS) (x : xS) (h : pheap) : Prop := (x.2 0 = 7 ∧ ∀ j, j < 11 → cBk 7 (g.2.2.2.2.1 1) (g.2.2.2.2.1 2) (g.2.2.2.2.1 3) ((g.2.2.2.2.2 8)) ((g.2.2.2.2.2 9)) ((g.2.2.2.2.2 10)) ((r.2.2.1 76)) ((r.2.2.1 80)) ((r.2.2.1 84)) ((r.2.2.1 86)) j (h.2.2 (7 + j))) ∨ 146 ≤ x.2 0
/-! values: what a Value at a has, against a cell of the reference -/
def VR (g : gS) (num : Nat → Int64) (len letters : Nat → Int32) (a : Nat) (s : Int32) (cell : Nat) : Prop :=
  (g.2.1 a).1 = s ∧ (s ≠ 4 → (g.2.1 a).2.1 = num cell ∧ (g.2.1 a).2.2 = 0) ∧
  (s = 4 → ((g.2.1 a).2.2 = 0 ∧ len cell = -1) ∨ ((g.2.1 a).2.2 ≠ 0 ∧ (g.2.2.1 (g.2.1 a).2.2).1 ≤ 16 ∧ len cell = nI (g.2.2.1 (g.2.1 a).2.2).1 ∧ ∀ k, k < (g.2.2.1 (g.2.1 a).2.2).1 → isB (letters (16 * cell + k)) ∧ (g.2.2.1 (g.2.1 a).2.2).2 k = sb (letters (16 * cell + k))))
def VRs (g : gS) (num : Nat → Int64) (len letters hs fs ms : Nat → Int32) : Prop :=
  (∀ k, k < (g.1 0 0) → VR g num len letters ((g.1 1) k) (hs k) k) ∧
  (∀ m, m < (g.1 0 1) → ∀ k, k < (g.2.2.2.2.2 8) ((g.2.2.2.2.2 11) m) → VR g num len letters ((g.2.2.2.2.2 7) (6 * m + k)) (fs (6 * (g.2.2.2.2.2 11) m + k)) (3 + (6 * m + k))) ∧
  (∀ c, c < (g.1 0 5) → (g.2.2.2.2.2 21) c ≠ 0 → VR g num len letters ((g.2.2.2.2.2 21) c) (if (g.2.2.2.2.2 17) c = 0 then 0 else ms (8 * (g.2.2.2.2.2 13) ((g.2.2.2.2.2 17) c - 1) + (g.2.2.2.2.2 16) c)) (543 + c))
/-- a row of bytes that the class keeps is what the reference keeps -/
def rowB (g : gS) (a n : Nat) (f : Nat → Int32) : Prop := (g.2.2.1 a).1 = n ∧ ∀ k, k < n → isB (f k) ∧ (g.2.2.1 a).2 k = sb (f k)
def Kept (g : gS) (states shelved requests answers treeRows : Nat → Int32) : Prop :=
  ∀ c, c < (g.1 0 5) → ((g.2.2.2.2.2 19) c = 0 ↔ (g.2.2.2.2.2 14) c = (g.2.2.2.2.2 15) c) ∧ ((g.2.2.2.2.2 19) c ≠ 0 → rowB g ((g.2.2.2.2.2 19) c) ((g.2.2.2.2.2 33) c) (fun k => requests (240 * c + k))) ∧
    ((g.2.2.2.2.2 20) c = 0 ↔ shelved c = 0) ∧ ((g.2.2.2.2.2 20) c ≠ 0 → rowB g ((g.2.2.2.2.2 20) c) ((g.2.2.2.2.2 34) c) (fun k => answers (240 * c + k))) ∧
    ((g.2.2.2.2.2 21) c = 0 ↔ states c ≠ 1) ∧ ((g.2.2.2.2.2 22) c = 0 ↔ states c ≠ 2) ∧ ((g.2.2.2.2.2 22) c ≠ 0 → (g.2.2.1 ((g.2.2.2.2.2 22) c)).1 = 5 * (g.2.2.2.2.2 32) c ∧ ∀ k, k < 5 * (g.2.2.2.2.2 32) c → (g.2.2.1 ((g.2.2.2.2.2 22) c)).2 k = treeRows (60 * c + k))
/-! the class's fixed part -/
def FxT (g : gS) (x : xS) (tape written : Nat → Int32) : Prop := x.1 5 1 = nI (g.2.2.2.2.1 4) ∧ (∀ k, k < (g.2.2.2.2.1 4) → x.1 6 k = sb (tape k)) ∧ x.1 5 6 = nI (g.2.2.2.2.1 5) ∧ ∀ k, k < (g.2.2.2.2.1 5) → x.1 18 k = sb (written k)
def FxL (g : gS) (x : xS) : Prop := ∀ q, 1 ≤ q → q < 7 → x.1 (18 + q) 2 = nI (g.1 0 (q - 1)) ∧ (x.2 q = 1 → g.1 0 (q - 1) = 0)
def FxW (g : gS) (x : xS) (slots : Nat → Int32) : Prop := x.1 25 0 = nI (g.2.2.2.2.1 0) ∧ (∀ i, i < 40 → x.1 69 i = nI ((g.2.2.2.2.2 27) i) ∧ (g.2.2.2.2.2 27) i < 40) ∧ (∀ i j, i < 40 → j < 40 → (g.2.2.2.2.2 27) i = (g.2.2.2.2.2 27) j → i = j) ∧ (g.2.2.2.2.1 0) ≤ 40 ∧ ∀ i, i < (g.2.2.2.2.1 0) → x.1 68 ((g.2.2.2.2.2 27) i) = nI ((g.2.2.2.2.2 28) i) ∧ ∀ k, k < (g.2.2.2.2.2 28) i → x.1 (28 + (g.2.2.2.2.2 27) i) k = sb (slots (32 * i + k))
def Fx (x : xS) (r : rS) : Prop := x.1 5 3 = (r.1 2) ∧ x.1 5 4 = (r.1 3) ∧ x.1 5 15 = (r.1 75) ∧ x.1 25 1 = (r.1 95)
/-- the old cells -/
def Lo (K : Nat → pcell) (h : pheap) : Prop := ∀ a, a < 5 → h.2.2 a = K a
def KOK (K : Nat → pcell) : Prop := (K 1).1 = 24 ∧ (K 1).2.1 = 0 ∧ (K 3).1 = 22 ∧ (K 3).2.1 = 0 ∧ (K 4).1 = 22 ∧ (K 4).2.1 = 1 ∧ (K 4).2.2 0 = .int 2
def Sim (K : Nat → pcell) (g : gS) (r : rS) (x : xS) (h : pheap) : Prop :=
  (146 ≤ h.1 ∧ KOK K ∧ Lo K h ∧ (∀ b, h.1 ≤ b ∨ b < 146 → g.2.2.2.1 b = (0, 0))) ∧ PF g x.2 h.1 ∧ HC g r (x.2 0) h ∧ BK7 g r x h ∧
  VRs g ((r.2.2.2 87)) ((r.2.2.1 88)) ((r.2.2.1 89)) ((r.2.2.1 91)) ((r.2.2.1 80)) ((r.2.2.1 84)) ∧ Kept g ((r.2.2.1 118)) ((r.2.2.1 126)) ((r.2.2.1 123)) ((r.2.2.1 127)) ((r.2.2.1 132)) ∧
  FxT g x ((r.2.2.1 74)) ((r.2.2.1 90)) ∧ FxL g x ∧ FxW g x ((r.2.2.1 139)) ∧ Fx x r
/-! what the reference's numbers are -/
def isSrt (rn sn : Nat) (s : Int32) : Prop := (∃ k, k < 5 ∧ s = nI k) ∨ (∃ k, k < rn ∧ s = nI (10 + k)) ∨ ∃ k, k < sn ∧ s = nI (20 + k)
def isBl (v : Int32) : Prop := v = 0 ∨ v = 1
def iCnt (g : gS) (r : rS) : Prop :=
  ((r.1 1) = nI (g.2.2.2.2.1 4) ∧ (g.2.2.2.2.1 4) ≤ 1500) ∧ ((r.1 28) = nI (g.2.2.2.2.1 5) ∧ (g.2.2.2.2.1 5) ≤ 16) ∧ ((r.1 30) = nI (g.1 0 0) ∧ (g.1 0 0) ≤ 3) ∧ ((r.1 32) = nI (g.1 0 1) ∧ (g.1 0 1) ≤ 60) ∧ ((r.1 50) = nI (g.1 0 2) ∧ (g.1 0 2) ≤ 16) ∧ ((r.1 33) = nI (g.1 0 3) ∧ (g.1 0 3) ≤ 8) ∧ ((r.1 41) = nI (g.1 0 4) ∧ (g.1 0 4) ≤ 24) ∧ ((r.1 57) = nI (g.1 0 5) ∧ (g.1 0 5) ≤ 60) ∧ ((r.1 94) = nI (g.2.2.2.2.1 0) ∧ (g.2.2.2.2.1 0) ≤ 40) ∧ ((r.1 11) = nI (g.2.2.2.2.1 1) ∧ 1 ≤ (g.2.2.2.2.1 1) ∧ (g.2.2.2.2.1 1) ≤ 9) ∧ ((r.1 16) = nI (g.2.2.2.2.1 2) ∧ (g.2.2.2.2.1 2) ≤ 6) ∧ ((r.1 23) = nI (g.2.2.2.2.1 3) ∧ (g.2.2.2.2.1 3) ≤ 8)
def iTxt (g : gS) (r : rS) : Prop := (∀ k, k < (g.2.2.2.2.1 4) → isB ((r.2.2.1 74) k)) ∧ ∀ k, k < (g.2.2.2.2.1 5) → isB ((r.2.2.1 90) k)
def iBook (g : gS) (r : rS) : Prop :=
  isBl (r.1 2) ∧ ((r.1 2) = 0 → (g.2.2.2.2.1 1) = 1 ∧ (g.2.2.2.2.1 2) = 0 ∧ (g.2.2.2.2.1 3) = 0 ∧ (r.2.2.1 76) 0 = 0) ∧
  (∀ k, k < (g.2.2.2.2.1 1) → (r.2.2.1 76) k = nI ((g.2.2.2.2.2 35) k) ∧ (k = 0 ∨ (g.2.2.2.2.2 35) k < k)) ∧
  (∀ k, k < (g.2.2.2.2.1 2) → (r.2.2.1 78) k = nI ((g.2.2.2.2.2 8) k) ∧ (g.2.2.2.2.2 8) k ≤ 6 ∧ ∀ i, i < (g.2.2.2.2.2 8) k → isSrt (g.2.2.2.2.1 2) (g.2.2.2.2.1 3) ((r.2.2.1 80) (6 * k + i))) ∧
  ∀ k, k < (g.2.2.2.2.1 3) → (r.2.2.1 82) k = nI ((g.2.2.2.2.2 9) k) ∧ (g.2.2.2.2.2 9) k ≤ 8 ∧ ∀ i, i < (g.2.2.2.2.2 9) k → isSrt (g.2.2.2.2.1 2) (g.2.2.2.2.1 3) ((r.2.2.1 84) (8 * k + i)) ∧ (r.2.2.1 85) (8 * k + i) = nI ((g.2.2.2.2.2 10) (8 * k + i)) ∧ (g.2.2.2.2.2 10) (8 * k + i) ≤ 3 ∧ ∀ a, a < (g.2.2.2.2.2 10) (8 * k + i) → isSrt (g.2.2.2.2.1 2) (g.2.2.2.2.1 3) ((r.2.2.1 86) (3 * (8 * k + i) + a))
def iDsk (tb : Nat) (g : gS) (r : rS) : Prop := ∀ i, i < 8 →
  ((g.1 0 3) ≤ i → (r.2.2.1 93) i = 0 ∧ (r.2.2.1 97) i = 0 ∧ (r.2.2.1 98) i = 0 ∧ (r.2.2.1 99) i = 0 ∧ (∀ k, k < 4 → (r.2.2.1 96) (4 * i + k) = 0) ∧ ∀ k, k < 9 → (r.2.2.1 94) (9 * i + k) = 1) ∧
  (∃ a, a ≤ 200 ∧ (r.2.2.1 93) i = nI a) ∧ (∀ k, k < 4 → ∃ s, s ≤ tb ∧ (r.2.2.1 96) (4 * i + k) = nI s) ∧ (∀ k, k < 9 → isBl ((r.2.2.1 94) (9 * i + k))) ∧ (r.2.2.1 94) (9 * i) = 1 ∧
  (i < (g.1 0 3) → ∀ o, o < 24 → ((r.2.2.1 95) (24 * i + o) = -1 ∨ ∃ a b, a ≤ b ∧ b ≤ 200 ∧ (r.2.2.1 95) (24 * i + o) = nI a ∧ (r.2.2.1 93) ((g.2.2.2.2.2 12) o) = nI b) ∧ (((g.1 0 4) ≤ o ∨ (g.2.2.2.2.2 12) o = i) → (r.2.2.1 95) (24 * i + o) = -1))
def iObj (g : gS) (r : rS) : Prop := ∀ o, o < (g.1 0 4) → (r.2.2.1 100) o = nI ((g.2.2.2.2.2 12) o) ∧ (g.2.2.2.2.2 12) o < (g.1 0 3) ∧ (r.2.2.1 101) o = nI ((g.2.2.2.2.2 13) o) ∧ (g.2.2.2.2.2 13) o < (g.2.2.2.2.1 3) ∧
  (∃ k, k ≤ 5 ∧ (r.2.2.1 102) o = nI k) ∧ ((r.2.2.1 102) o = 2 → ∃ f, f < (g.1 0 2) ∧ (r.2.2.1 103) o = nI f) ∧ ((r.2.2.1 102) o = 5 → (∃ t, t ≤ o ∧ (r.2.2.1 103) o = nI t) ∧ ∃ m, m < 8 ∧ (r.2.2.1 104) o = nI m) ∧ ((r.2.2.1 107) o = -1 ∨ ∃ k, k < (g.1 0 4) ∧ (r.2.2.1 107) o = nI k)
def iNod (g : gS) (r : rS) : Prop := ∀ m, m < (g.1 0 1) → (r.2.2.1 92) m = nI ((g.2.2.2.2.2 11) m) ∧ (g.2.2.2.2.2 11) m < (g.2.2.2.2.1 2)
/-- a cell has a value of a sort -/
def VV (nn no : Nat) (nrec os : Nat → Nat) (v : Int64) (s : Int32) : Prop :=
  (s = 0 → ∃ i : Int32, v = i.toInt64) ∧ (s = 3 → v = 0 ∨ v = 1) ∧
  (∀ k, k < 6 → s = nI (10 + k) → v = -1 ∨ ∃ m, m < nn ∧ nrec m = k ∧ v = (nI m).toInt64) ∧
  (∀ k, k < 8 → s = nI (20 + k) → v = -1 ∨ ∃ o, o < no ∧ os o = k ∧ v = (nI o).toInt64)
def iVal (g : gS) (r : rS) : Prop :=
  (∀ k, k < (g.1 0 0) → isSrt (g.2.2.2.2.1 2) (g.2.2.2.2.1 3) ((r.2.2.1 91) k) ∧ VV (g.1 0 1) (g.1 0 4) ((g.2.2.2.2.2 11)) ((g.2.2.2.2.2 13)) ((r.2.2.2 87) k) ((r.2.2.1 91) k)) ∧
  (∀ m, m < (g.1 0 1) → ∀ k, k < (g.2.2.2.2.2 8) ((g.2.2.2.2.2 11) m) → VV (g.1 0 1) (g.1 0 4) ((g.2.2.2.2.2 11)) ((g.2.2.2.2.2 13)) ((r.2.2.2 87) (3 + (6 * m + k))) ((r.2.2.1 80) (6 * (g.2.2.2.2.2 11) m + k))) ∧
  (∀ c, c < (g.1 0 5) → (g.2.2.2.2.2 21) c ≠ 0 → VV (g.1 0 1) (g.1 0 4) ((g.2.2.2.2.2 11)) ((g.2.2.2.2.2 13)) ((r.2.2.2 87) (543 + c)) (if (g.2.2.2.2.2 17) c = 0 then 0 else (r.2.2.1 84) (8 * (g.2.2.2.2.2 13) ((g.2.2.2.2.2 17) c - 1) + (g.2.2.2.2.2 16) c)))
def iFai (g : gS) (r : rS) : Prop := ∀ f, f < (g.1 0 2) → (∃ k, k < (g.2.2.2.2.1 1) ∧ (r.2.2.1 108) f = nI k) ∧ (∃ k, k < 1000 ∧ (r.2.2.1 109) f = nI k) ∧
  (r.2.2.1 110) f = (if (g.2.2.2.2.2 24) f = 0 then -1 else nI ((g.2.2.2.2.2 24) f - 1)) ∧ (g.2.2.2.2.2 24) f ≤ f ∧ (r.2.2.1 112) f = nI ((g.2.2.2.2.2 26) f) ∧ (g.2.2.2.2.2 26) f ≤ 2 ∧ (∀ k, k < (g.2.2.2.2.2 26) f → (r.2.2.1 111) (2 * f + k) = nI ((g.2.2.2.2.2 25) (2 * f + k)) ∧ (g.2.2.2.2.2 25) (2 * f + k) < f) ∧
  (r.2.2.1 113) f = nI ((g.2.2.2.2.2 36) f) ∧ (g.2.2.2.2.2 36) f ≤ 12 ∧ (g.2.2.2.2.2 36) f = 1 + (if (g.2.2.2.2.2 24) f = 0 then 0 else (g.2.2.2.2.2 36) ((g.2.2.2.2.2 24) f - 1)) + (if 0 < (g.2.2.2.2.2 26) f then (g.2.2.2.2.2 36) ((g.2.2.2.2.2 25) (2 * f)) else 0) + (if 1 < (g.2.2.2.2.2 26) f then (g.2.2.2.2.2 36) ((g.2.2.2.2.2 25) (2 * f + 1)) else 0)
def iCal (g : gS) (r : rS) : Prop := ∀ c, c < (g.1 0 5) → (r.2.2.1 114) c = nI ((g.2.2.2.2.2 14) c) ∧ (g.2.2.2.2.2 14) c < (g.1 0 3) ∧ (r.2.2.1 117) c = nI ((g.2.2.2.2.2 15) c) ∧ (g.2.2.2.2.2 15) c < (g.1 0 3) ∧
  (r.2.2.1 115) c = (if (g.2.2.2.2.2 17) c = 0 then -1 else nI ((g.2.2.2.2.2 17) c - 1)) ∧ (g.2.2.2.2.2 17) c ≤ (g.1 0 4) ∧ (r.2.2.1 116) c = nI ((g.2.2.2.2.2 16) c) ∧ ((g.2.2.2.2.2 17) c = 0 → (g.2.2.2.2.2 16) c < 4 ∧ (g.2.2.2.2.2 14) c ≠ (g.2.2.2.2.2 15) c) ∧ ((g.2.2.2.2.2 17) c ≠ 0 → (g.2.2.2.2.2 16) c < (g.2.2.2.2.2 9) ((g.2.2.2.2.2 13) ((g.2.2.2.2.2 17) c - 1)) ∧ (g.2.2.2.2.2 15) c = (g.2.2.2.2.2 12) ((g.2.2.2.2.2 17) c - 1)) ∧
  (r.2.2.1 119) c = (if (g.2.2.2.2.2 18) c = 0 then -1 else nI ((g.2.2.2.2.2 18) c - 1)) ∧ (g.2.2.2.2.2 18) c ≤ c ∧ (∃ k, k ≤ 5 ∧ (r.2.2.1 118) c = nI k) ∧ isBl ((r.2.2.1 125) c) ∧ isBl ((r.2.2.1 126) c) ∧ isBl ((r.2.2.1 130) c) ∧ isBl ((r.2.2.1 120) c) ∧
  (r.2.2.1 124) c = nI ((g.2.2.2.2.2 33) c) ∧ (g.2.2.2.2.2 33) c ≤ 240 ∧ (r.2.2.1 128) c = nI ((g.2.2.2.2.2 34) c) ∧ (g.2.2.2.2.2 34) c ≤ 240 ∧ (r.2.2.1 131) c = nI ((g.2.2.2.2.2 32) c) ∧ (g.2.2.2.2.2 32) c ≤ 12 ∧ ((r.2.2.1 130) c = 1 → (g.2.2.2.2.2 17) c = 0 ∧ ∃ k, 1 ≤ k ∧ k ≤ 1000 ∧ (r.2.2.1 129) c = nI k) ∧ ((g.2.2.2.2.2 18) c ≠ 0 → (g.2.2.2.2.2 17) c ≠ 0 ∧ (g.2.2.2.2.2 17) ((g.2.2.2.2.2 18) c - 1) ≠ 0 ∧ (r.2.2.1 84) (8 * (g.2.2.2.2.2 13) ((g.2.2.2.2.2 17) c - 1) + (g.2.2.2.2.2 16) c) = (r.2.2.1 84) (8 * (g.2.2.2.2.2 13) ((g.2.2.2.2.2 17) ((g.2.2.2.2.2 18) c - 1) - 1) + (g.2.2.2.2.2 16) ((g.2.2.2.2.2 18) c - 1)))
def iWay (g : gS) (r : rS) : Prop :=
  (∀ i, i < (g.2.2.2.2.1 0) → (r.2.2.1 140) i = nI ((g.2.2.2.2.2 28) i) ∧ 5 ≤ (g.2.2.2.2.2 28) i ∧ (g.2.2.2.2.2 28) i ≤ 29 ∧ ∀ k, k < (g.2.2.2.2.2 28) i → isB ((r.2.2.1 139) (32 * i + k))) ∧
  (∀ c, c < 60 → ∀ w, w < 2 → ((g.1 0 5) ≤ c → (g.2.2.2.2.2 23) (60 * w + c) = 0 ∧ (r.2.2.1 124) c = 0 ∧ (r.2.2.1 128) c = 0) ∧ ((g.2.2.2.2.2 23) (60 * w + c) = 0 → c < (g.1 0 5) → (g.2.2.2.2.2 31) (60 * w + c) = 0) ∧ (c < (g.1 0 5) → (r.2.2.1 144) (60 * w + c) = nI ((g.2.2.2.2.2 31) (60 * w + c)) ∧ (g.2.2.2.2.2 31) (60 * w + c) < 1024 ∧ (r.2.2.1 143) (60 * w + c) = nI ((g.2.2.2.2.2 30) (60 * w + c)) ∧ (g.2.2.2.2.2 30) (60 * w + c) ≤ 10))
def Inv (tb : Nat) (g : gS) (r : rS) : Prop := iCnt g r ∧ iTxt g r ∧ iBook g r ∧ iDsk tb g r ∧ iObj g r ∧ iNod g r ∧ iVal g r ∧ iFai g r ∧ iCal g r ∧ iWay g r
/-! messages: how many parts, how long a part is; what is on the way, what is kept; what the bytes are -/
def nP (z : Nat) : Nat := if z = 0 then 1 else (z + 23) / 24
def cS (z p : Nat) : Nat := min 24 (z - 24 * p)
def slM (g : gS) (f : Nat → Int32) (z : Nat) (requests answers : Nat → Int32) : Prop := ∃ w c p m, w < 3 ∧ c < (g.1 0 5) ∧ (g.2.2.2.2.2 14) c ≠ (g.2.2.2.2.2 15) c ∧ p < m ∧ m ≤ 10 ∧ f 1 = nI w ∧ f 2 = nI c ∧ f 3 = nI p ∧ f 4 = nI m ∧
  (w = 0 → m = nP ((g.2.2.2.2.2 33) c) ∧ z = 5 + cS ((g.2.2.2.2.2 33) c) p ∧ ∀ k, k < cS ((g.2.2.2.2.2 33) c) p → f (5 + k) = requests (240 * c + (24 * p + k))) ∧
  (w = 1 → (m = 1 ∧ z = 6 ∧ f 5 = 2) ∨ ((g.2.2.2.2.2 34) c ≠ 0 ∧ m = nP ((g.2.2.2.2.2 34) c) ∧ z = 5 + cS ((g.2.2.2.2.2 34) c) p ∧ ∀ k, k < cS ((g.2.2.2.2.2 34) c) p → f (5 + k) = answers (240 * c + (24 * p + k)))) ∧
  (w = 2 → m = 1 ∧ z = 5)
def mSl (g : gS) (slots requests answers : Nat → Int32) : Prop := ∀ i, i < (g.2.2.2.2.1 0) → slM g (fun k => slots (32 * i + k)) ((g.2.2.2.2.2 28) i) requests answers
/-- the parts that are kept of a message of z bytes f -/
def gotP (bits of z : Nat) (gsz : Nat → Nat) (got f : Nat → Int32) : Prop := bits ≠ 0 → of = nP z ∧ bits < 2 ^ of ∧ bits ≠ 2 ^ of - 1 ∧ ∀ p, p < of → bt bits p = true → gsz p = cS z p ∧ ∀ k, k < cS z p → got (24 * p + k) = f (24 * p + k)
def mGot (g : gS) (gotSize got requests answers : Nat → Int32) : Prop := (∀ j p, j < 120 → p < 10 → gotSize (10 * j + p) = nI ((g.2.2.2.2.2 29) (10 * j + p)) ∧ (g.2.2.2.2.2 29) (10 * j + p) ≤ 24) ∧ ∀ c, c < (g.1 0 5) →
  ((g.2.2.2.2.2 14) c = (g.2.2.2.2.2 15) c → (g.2.2.2.2.2 31) c = 0 ∧ (g.2.2.2.2.2 31) (60 + c) = 0) ∧
  gotP ((g.2.2.2.2.2 31) c) ((g.2.2.2.2.2 30) c) ((g.2.2.2.2.2 33) c) (fun p => (g.2.2.2.2.2 29) (10 * c + p)) (fun k => got (240 * c + k)) (fun k => requests (240 * c + k)) ∧
  gotP ((g.2.2.2.2.2 31) (60 + c)) ((g.2.2.2.2.2 30) (60 + c)) ((g.2.2.2.2.2 34) c) (fun p => (g.2.2.2.2.2 29) (10 * (60 + c) + p)) (fun k => got (240 * (60 + c) + k)) (fun k => answers (240 * c + k)) ∧ ((g.2.2.2.2.2 31) (60 + c) ≠ 0 → (g.2.2.2.2.2 34) c ≠ 0)
/-- values, as bytes: what of them is read, and which records its nodes have -/
def prs (fc : Nat → Nat) (fs : Nat → Int32) (os : Nat → Nat) (no : Nat) (f : Nat → Int32) : Nat → List Int32 → Nat → List Nat → Option (Nat × List Nat)
  | 0, _, _, _ => none
  | _ + 1, [], p, l => some (p, l)
  | n + 1, s :: t, p, l =>
    if s = 0 then prs fc fs os no f n t (p + 4) l
    else if s = 1 ∨ s = 2 then prs fc fs os no f n t (p + 8) l
    else if s = 3 then (if f p = 0 ∨ f p = 1 then prs fc fs os no f n t (p + 1) l else none)
    else if s = 4 then (if f p = 255 then prs fc fs os no f n t (p + 1) l else if f p ≤ 16 then prs fc fs os no f n t (p + 1 + (f p).toNatClampNeg) l else none)
    else if 20 ≤ s then (if f p = 255 then prs fc fs os no f n t (p + 1) l else if (f p).toNatClampNeg < no ∧ s = nI (20 + os (f p).toNatClampNeg) then prs fc fs os no f n t (p + 1) l else none)
    else if f p = 255 then prs fc fs os no f n t (p + 1) l
    else if f p = 254 then (if l[(f (p + 1)).toNatClampNeg]? = some (s - 10).toNatClampNeg then prs fc fs os no f n t (p + 2) l else none)
    else if f p = 253 ∧ l.length < 12 then prs fc fs os no f n ((List.range (fc (s - 10).toNatClampNeg)).map (fun i => fs (6 * (s - 10).toNatClampNeg + i)) ++ t) (p + 1) (l ++ [(s - 10).toNatClampNeg])
    else none
def mReq (g : gS) (requests fieldSorts wantedSorts ages carried : Nat → Int32) : Prop := ∀ c, c < (g.1 0 5) → (g.2.2.2.2.2 14) c ≠ (g.2.2.2.2.2 15) c →
  3 ≤ (g.2.2.2.2.2 33) c ∧ (∀ k, k < (g.2.2.2.2.2 33) c → isB (requests (240 * c + k))) ∧ requests (240 * c + 1) = nI ((g.2.2.2.2.2 16) c) ∧ (∃ a b, a ≤ b ∧ b ≤ 200 ∧ requests (240 * c + 2) = nI a ∧ ages ((g.2.2.2.2.2 15) c) = nI b) ∧
  ((g.2.2.2.2.2 17) c = 0 → (g.2.2.2.2.2 33) c = 5 ∧ requests (240 * c) = 250 ∧ ∃ n, 1 ≤ n ∧ n ≤ 1000 ∧ requests (240 * c + 3) = nI (n / 256) ∧ requests (240 * c + 4) = nI (n % 256) ∧ carried c = nI n) ∧
  ((g.2.2.2.2.2 17) c ≠ 0 → requests (240 * c) = nI ((g.2.2.2.2.2 17) c - 1) ∧ ∃ n l, prs ((g.2.2.2.2.2 8)) fieldSorts ((g.2.2.2.2.2 13)) (g.1 0 4) (fun k => requests (240 * c + k)) n ((List.range ((g.2.2.2.2.2 10) (8 * (g.2.2.2.2.2 13) ((g.2.2.2.2.2 17) c - 1) + (g.2.2.2.2.2 16) c))).map (fun a => wantedSorts (3 * (8 * (g.2.2.2.2.2 13) ((g.2.2.2.2.2 17) c - 1) + (g.2.2.2.2.2 16) c) + a))) 3 [] = some ((g.2.2.2.2.2 33) c, l))
def mAns (g : gS) (answers fieldSorts methodSorts : Nat → Int32) : Prop := ∀ c, c < (g.1 0 5) → (g.2.2.2.2.2 34) c ≠ 0 → (g.2.2.2.2.2 14) c ≠ (g.2.2.2.2.2 15) c ∧ (∀ k, k < (g.2.2.2.2.2 34) c → isB (answers (240 * c + k))) ∧
  ((answers (240 * c) = 0 ∧ ∃ n l, prs ((g.2.2.2.2.2 8)) fieldSorts ((g.2.2.2.2.2 13)) (g.1 0 4) (fun k => answers (240 * c + k)) n [if (g.2.2.2.2.2 17) c = 0 then 0 else methodSorts (8 * (g.2.2.2.2.2 13) ((g.2.2.2.2.2 17) c - 1) + (g.2.2.2.2.2 16) c)] 1 [] = some ((g.2.2.2.2.2 34) c, l)) ∨
   (answers (240 * c) = 1 ∧ ∃ m, 1 ≤ m ∧ m ≤ 12 ∧ (g.2.2.2.2.2 34) c = 1 + 6 * m ∧ ∀ i, i < m → ∃ k, k < (g.2.2.2.2.1 1) ∧ answers (240 * c + (1 + 6 * i)) = nI k))
def mRun (tb : Nat) (g : gS) (states begun shelved isAwaited requests ages sentAt : Nat → Int32) (time : Int32) : Prop := ∀ c, c < (g.1 0 5) →
  ((g.2.2.2.2.2 14) c ≠ (g.2.2.2.2.2 15) c → begun c = 1 → requests (240 * c + 2) = ages ((g.2.2.2.2.2 15) c)) ∧
  ((g.2.2.2.2.2 14) c ≠ (g.2.2.2.2.2 15) c → ((g.2.2.2.2.2 34) c ≠ 0 ∨ ∃ i, i < (g.1 0 5) ∧ (g.2.2.2.2.2 18) i = c + 1) → begun c = 1 ∨ requests (240 * c + 2) ≠ ages ((g.2.2.2.2.2 15) c)) ∧
  (shelved c = 1 → (g.2.2.2.2.2 34) c ≠ 0) ∧
  (∀ i, i < (g.1 0 5) → (g.2.2.2.2.2 18) i = c + 1 → c < i ∧ (g.2.2.2.2.2 14) i = (g.2.2.2.2.2 15) c ∧ (states i = 0 → ((g.2.2.2.2.2 14) c = (g.2.2.2.2.2 15) c → states c = 0) ∧ ((g.2.2.2.2.2 14) c ≠ (g.2.2.2.2.2 15) c → (g.2.2.2.2.2 34) c = 0)) ∧ ∀ j, j < (g.1 0 5) → (g.2.2.2.2.2 18) j = c + 1 → i = j) ∧
  (states c = 0 → (isAwaited c = 0 ↔ (g.2.2.2.2.2 18) c = 0)) ∧
  ((g.2.2.2.2.2 14) c ≠ (g.2.2.2.2.2 15) c → states c = 0 → ∃ s, s < 36 + tb % 2 ∧ time - sentAt c = nI s)
def Msg (tb : Nat) (g : gS) (r : rS) : Prop := mSl g ((r.2.2.1 139)) ((r.2.2.1 123)) ((r.2.2.1 127)) ∧ mGot g ((r.2.2.1 142)) ((r.2.2.1 141)) ((r.2.2.1 123)) ((r.2.2.1 127)) ∧ mReq g ((r.2.2.1 123)) ((r.2.2.1 80)) ((r.2.2.1 86)) ((r.2.2.1 93)) ((r.2.2.1 129)) ∧ mAns g ((r.2.2.1 127)) ((r.2.2.1 80)) ((r.2.2.1 84)) ∧ mRun tb g ((r.2.2.1 118)) ((r.2.2.1 125)) ((r.2.2.1 126)) ((r.2.2.1 120)) ((r.2.2.1 123)) ((r.2.2.1 93)) ((r.2.2.1 122)) (r.1 75)
def World (K : Nat → pcell) (tb : Nat) (g : gS) (r : rS) (x : xS) (h : pheap) : Prop := Sim K g r x h ∧ Inv tb g r ∧ Msg tb g r
/-- the class's call and the reference's answer alike, and the world holds again -/
def Aft (K : Nat → pcell) (tb : Nat) (h : pheap) (H' : pheap) : Prop := ∃ g' r' x' h', H' = putR r' (putX x' h') ∧ World K (tb + 1000) g' r' x' h' ∧ h'.1 ≤ h.1 + 1100 ∧ h'.2.1 ≤ h.2.1 + 14000
def Same (K : Nat → pcell) (tb : Nat) (r : rS) (x : xS) (h : pheap) (kx : Nat) (ls : List Value) (km : Nat) (lm : List Value) : Prop := ∀ d, Go (d + 100) kx 0 ls [] (putR r (putX x h)) (fun v H => (H.2.2 0 = K 0 ∧ (H.2.2 73).1 = 13) ∧ 146 ≤ H.1 ∧ Go (d + 100) km 0 lm [] H (fun w H' => w = v ∧ Aft K tb h H'))
