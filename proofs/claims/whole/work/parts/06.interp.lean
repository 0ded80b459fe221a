def nkW : Cond → Bool
  | .castable _ _ => true
  | .fieldLinkNest _ _ _ _ _ _ => true
  | .methodLinkNest _ _ _ _ => true
  | .declares _ => true
  | .arrayOver (.object _) => true
  | .arrayOver (.array _) => true
  | _ => false
def useW (w : Cond) : Bool := goodWord w || nkW w
def lw_use : List Cond := lw_tbl.filter useW
def lw_good : List Cond := lw_tbl.filter goodWord
theorem use_of {w : Cond} (h : w ∈ lw_tbl) (hu : useW w = true) : w ∈ lw_use := List.mem_filter.mpr ⟨h, hu⟩
def fkL : List (List Nat) := [[0, 3, 0], [0, 0, 0, 3, 3, 3, 3, 3, 3, 3, 3, 3, 3], [3, 0, 0, 3, 0, 0, 0, 1, 3], [0, 3, 3, 3, 0, 3, 0, 0, 0, 2, 0, 3, 3, 3, 3, 3, 3], [0, 0, 0, 0, 0, 3, 3, 3], [0, 0, 3, 3, 0], [0, 0, 2, 0, 0, 0, 3, 3], [0, 3], [0, 3, 0, 0, 0, 0, 1, 0, 0], [0, 1, 3], [0, 0, 3, 0, 3, 3, 3], [2, 0, 0, 3, 3], [3, 0, 3, 2, 0, 3, 0, 3, 3, 3, 3, 3, 3, 3, 3, 0], [3, 0, 2, 0, 0, 0, 0, 0, 1, 3, 3, 0, 3, 3, 3, 3, 0, 3, 3, 3, 3, 3, 3, 0, 3, 3, 3, 3, 0, 3, 0, 3, 0, 0, 3, 3, 3, 3, 3, 3, 3, 0, 3, 3, 3, 3, 3, 3, 3, 3, 0, 3, 3, 3, 3, 3, 3, 0, 3, 3, 3, 3, 3, 3, 3, 3, 3, 3, 3, 3, 3, 3, 3, 3, 3, 0, 3, 3, 2, 3, 3, 0, 2, 3, 0, 3, 3, 0, 0, 0, 0, 3, 3, 3, 0, 0, 3, 3, 3, 3, 3]]
/-! the pure machine: a heap of cells (class or array tag, length, contents), a frame of locals and stack, methods by their numbers -/
abbrev pcell : Type := Nat × Nat × (Nat → Value)
abbrev pheap : Type := Nat × Nat × (Nat → pcell)
abbrev mk0 : Value := .retAddr 0
def hset (h : pheap) (a i : Nat) (v : Value) : pheap := (h.1, h.2.1, fun b => if b = a then ((h.2.2 a).1, (h.2.2 a).2.1, updV (h.2.2 a).2.2 i v) else h.2.2 b)
def hnew (h : pheap) (t n : Nat) (f : Nat → Value) : pheap := (h.1 + 1, h.2.1 + n, fun b => if b = h.1 then (t, n, f) else h.2.2 b)
def hmul (h : pheap) (n m : Nat) : pheap := (h.1 + 1 + n, h.2.1 + (n + n * m), fun b => if b = h.1 then (27, n, fun j => .ref (h.1 + 1 + j)) else if h.1 < b ∧ b ≤ h.1 + n then (22, m, fun _ => .int 0) else h.2.2 b)
def isIx (j : Int32) (n : Nat) : Bool := decide (¬ (j < 0 ∨ n ≤ j.toNatClampNeg))
def dflA (t : Nat) : Value := if t = 21 then .long 0 else if t < 24 then .int 0 else .null
def atTag : ArrayType → Nat
  | .int => 20
  | .long => 21
  | .byte => 22
  | .boolean => 23
  | _ => 99
def fkd (c : Nat) : Nat := (fkL.getD (c / 1000) []).getD (c % 1000) 9
def vOK (k : Nat) (v : Value) : Bool := match k, v with
  | 0, .int _ => true
  | 1, .long _ => true
  | 2, .int x => x == 0 || x == 1
  | 3, .null => true
  | 3, .ref _ => true
  | _, _ => false
def dflF (k : Nat) : Value := match k with
  | 1 => .long 0
  | 3 => .null
  | _ => .int 0
def clN (c : Nat) : Nat := (fkL.getD c []).length
/-- a value of one word, a value of two words, into the locals -/
def st1 (ls : List Value) (i : Nat) (v : Value) : Option (List Value) := if i < ls.length ∧ (i = 0 ∨ (ls.getD (i - 1) .null).category = 1) then some (ls.set i v) else none
def st2 (ls : List Value) (i : Nat) (v : Value) : Option (List Value) := if i + 1 < ls.length ∧ (i = 0 ∨ (ls.getD (i - 1) .null).category = 1) then some ((ls.set i v).set (i + 1) mk0) else none
def cnd (c : Jvm.ClassFile.Cond) (x y : Int32) : Bool := match c with
  | .eq => decide (x = y)
  | .ne => decide (¬ x = y)
  | .lt => decide (x < y)
  | .ge => decide (y ≤ x)
  | .gt => decide (y < x)
  | .le => decide (x ≤ y)
def refO : Value → Option (Option Nat)
  | .null => some none
  | .ref a => some (some a)
  | _ => none
def oldP (x y : Option Nat) : Bool := match x, y with
  | some a, some b => decide (a = b) || (decide (5 ≤ a) || decide (5 ≤ b))
  | _, _ => true
def aasOK (h : pheap) (t : Nat) (v : Value) : Bool := match v with
  | .null => decide (24 ≤ t) && decide (t ≤ 26)
  | .ref b => decide (b < h.1) && ((decide (t = 24) && (decide (0 < (h.2.2 b).1) && decide ((h.2.2 b).1 < 14))) || ((decide (t = 25) && decide ((h.2.2 b).1 = 9)) || (decide (t = 26) && decide ((h.2.2 b).1 = 5))))
  | _ => false
abbrev xr : Type := Option (pheap × Nat × List Value × List Value)
def xi (i : Instr) (x y : Int32) : Option Int32 := match i with
  | .iadd => some (x + y)
  | .isub => some (x - y)
  | .imul => some (x * y)
  | .iand => some (x &&& y)
  | .ior => some (x ||| y)
  | .ishl => some (x <<< (y &&& 31))
  | .ishr => some (x >>> (y &&& 31))
  | .idiv => if y = 0 then none else some (x / y)
  | .irem => if y = 0 then none else some (x - x / y * y)
  | _ => none
def xl (i : Instr) (x y : Int64) : Option Value := match i with
  | .ladd => some (.long (x + y))
  | .land => some (.long (x &&& y))
  | .lor => some (.long (x ||| y))
  | .lcmp => some (.int (lg_cmp x y))
  | _ => none
def xlo (h : pheap) (n : Nat) (ls st : List Value) (v : Value) : xr := some (h, n, ls, v :: st)
def xs (h : pheap) (n : Nat) (ls st : List Value) (i : Instr) : xr := match i with
  | .iconst c => some (h, n, ls, .int (Int32.ofInt c) :: st)
  | .ldc2_w c => some (h, n, ls, .long (Int64.ofNat c) :: st)
  | .aconst_null => some (h, n, ls, .null :: st)
  | .iload j => match ls[j]? with
    | some (.int x) => some (h, n, ls, .int x :: st)
    | _ => none
  | .lload j => match ls[j]? with
    | some (.long x) => some (h, n, ls, .long x :: st)
    | _ => none
  | .aload j => match ls[j]? with
    | some (.ref x) => some (h, n, ls, .ref x :: st)
    | some .null => some (h, n, ls, .null :: st)
    | _ => none
  | .istore j => match st with
    | .int x :: r => (st1 ls j (.int x)).map (fun l => (h, n, l, r))
    | _ => none
  | .lstore j => match st with
    | .long x :: r => (st2 ls j (.long x)).map (fun l => (h, n, l, r))
    | _ => none
  | .astore j => match st with
    | .ref x :: r => (st1 ls j (.ref x)).map (fun l => (h, n, l, r))
    | .null :: r => (st1 ls j .null).map (fun l => (h, n, l, r))
    | _ => none
  | .iinc j c => match ls[j]? with
    | some (.int x) => (st1 ls j (.int (x + Int32.ofInt c))).map (fun l => (h, n, l, st))
    | _ => none
  | .i2l => match st with
    | .int x :: r => some (h, n, ls, .long x.toInt64 :: r)
    | _ => none
  | .l2i => match st with
    | .long x :: r => some (h, n, ls, .int x.toInt32 :: r)
    | _ => none
  | .i2b => match st with
    | .int x :: r => some (h, n, ls, .int x.toInt8.toInt32 :: r)
    | _ => none
  | .lshl => match st with
    | .int y :: .long x :: r => some (h, n, ls, .long (x <<< (y.toInt64 &&& 63)) :: r)
    | _ => none
  | .lshr => match st with
    | .int y :: .long x :: r => some (h, n, ls, .long (x >>> (y.toInt64 &&& 63)) :: r)
    | _ => none
  | .pop => match st with
    | v :: r => if v.category = 1 then some (h, n, ls, r) else none
    | _ => none
  | .dup => match st with
    | v :: r => if v.category = 1 then some (h, n, ls, v :: v :: r) else none
    | _ => none
  | .dup_x1 => match st with
    | v :: u :: r => if v.category = 1 ∧ u.category = 1 then some (h, n, ls, v :: u :: v :: r) else none
    | _ => none
  | .dup2 => match st with
    | v :: u :: r => if v.category = 1 ∧ u.category = 1 then some (h, n, ls, v :: u :: v :: u :: r) else none
    | _ => none
  | .getstatic c => some (h, n, ls, .ref c :: st)
  | .getfield c => match st with
    | .ref a :: r => if a < h.1 ∧ (h.2.2 a).1 = c / 1000 then some (h, n, ls, (h.2.2 a).2.2 (c % 1000) :: r) else none
    | _ => none
  | .putfield c => match st with
    | v :: .ref a :: r => if 5 ≤ a ∧ a < h.1 ∧ (h.2.2 a).1 = c / 1000 ∧ vOK (fkd c) v = true then some (hset h a (c % 1000) v, n, ls, r) else none
    | _ => none
  | .arraylength => match st with
    | .ref a :: r => if a < h.1 ∧ 20 ≤ (h.2.2 a).1 then some (h, n, ls, .int (nI (h.2.2 a).2.1) :: r) else none
    | _ => none
  | .iaload => match st with
    | .int j :: .ref a :: r => if a < h.1 ∧ (h.2.2 a).1 = 20 ∧ isIx j (h.2.2 a).2.1 = true then some (h, n, ls, (h.2.2 a).2.2 j.toNatClampNeg :: r) else none
    | _ => none
  | .laload => match st with
    | .int j :: .ref a :: r => if a < h.1 ∧ (h.2.2 a).1 = 21 ∧ isIx j (h.2.2 a).2.1 = true then some (h, n, ls, (h.2.2 a).2.2 j.toNatClampNeg :: r) else none
    | _ => none
  | .baload => match st with
    | .int j :: .ref a :: r => if a < h.1 ∧ ((h.2.2 a).1 = 22 ∨ (h.2.2 a).1 = 23) ∧ isIx j (h.2.2 a).2.1 = true then some (h, n, ls, (h.2.2 a).2.2 j.toNatClampNeg :: r) else none
    | _ => none
  | .aaload => match st with
    | .int j :: .ref a :: r => if a < h.1 ∧ 24 ≤ (h.2.2 a).1 ∧ isIx j (h.2.2 a).2.1 = true then some (h, n, ls, (h.2.2 a).2.2 j.toNatClampNeg :: r) else none
    | _ => none
  | .iastore => match st with
    | .int x :: .int j :: .ref a :: r => if 5 ≤ a ∧ a < h.1 ∧ (h.2.2 a).1 = 20 ∧ isIx j (h.2.2 a).2.1 = true then some (hset h a j.toNatClampNeg (.int x), n, ls, r) else none
    | _ => none
  | .lastore => match st with
    | .long x :: .int j :: .ref a :: r => if 5 ≤ a ∧ a < h.1 ∧ (h.2.2 a).1 = 21 ∧ isIx j (h.2.2 a).2.1 = true then some (hset h a j.toNatClampNeg (.long x), n, ls, r) else none
    | _ => none
  | .bastore => match st with
    | .int x :: .int j :: .ref a :: r => if 5 ≤ a ∧ a < h.1 ∧ isIx j (h.2.2 a).2.1 = true then (if (h.2.2 a).1 = 22 then some (hset h a j.toNatClampNeg (.int x.toInt8.toInt32), n, ls, r) else if (h.2.2 a).1 = 23 then some (hset h a j.toNatClampNeg (.int (x &&& 1)), n, ls, r) else none) else none
    | _ => none
  | .aastore => match st with
    | v :: .int j :: .ref a :: r => if 5 ≤ a ∧ a < h.1 ∧ aasOK h (h.2.2 a).1 v = true ∧ isIx j (h.2.2 a).2.1 = true then some (hset h a j.toNatClampNeg v, n, ls, r) else none
    | _ => none
  | .new c => if c < 14 then some (hnew h c (clN c) (fun k => dflF (fkd (1000 * c + k))), n, ls, .ref h.1 :: st) else none
  | .newarray t => match st with
    | .int x :: r => if ¬ x < 0 ∧ x.toNatClampNeg ≤ 100000 ∧ atTag t < 24 then some (hnew h (atTag t) x.toNatClampNeg (fun _ => dflA (atTag t)), n, ls, .ref h.1 :: r) else none
    | _ => none
  | .anewarray t => match st with
    | .int x :: r => if ¬ x < 0 ∧ x.toNatClampNeg ≤ 100000 ∧ 24 ≤ t ∧ t ≤ 26 then some (hnew h t x.toNatClampNeg (fun _ => .null), n, ls, .ref h.1 :: r) else none
    | _ => none
  | .multianewarray _ _ => match st with
    | .int y :: .int x :: r => if 0 < x ∧ 0 < y ∧ x.toNatClampNeg ≤ 1000 ∧ y.toNatClampNeg ≤ 1000 then some (hmul h x.toNatClampNeg y.toNatClampNeg, n, ls, .ref h.1 :: r) else none
    | _ => none
  | .checkcast c => match st with
    | .null :: r => some (h, n, ls, .null :: r)
    | .ref a :: r => if a < h.1 ∧ (h.2.2 a).1 = c ∧ (c = 3 ∨ c = 4 ∨ c = 5 ∨ c = 7 ∨ c = 8 ∨ c = 9) then some (h, n, ls, .ref a :: r) else none
    | _ => none
  | .goto t => some (h, t.toNat, ls, st)
  | .ifCond c t => match st with
    | .int x :: r => some (h, (if cnd c x 0 = true then t.toNat else n), ls, r)
    | _ => none
  | .if_icmp c t => match st with
    | .int y :: .int x :: r => some (h, (if cnd c x y = true then t.toNat else n), ls, r)
    | _ => none
  | .ifnull t => match st with
    | .null :: r => some (h, t.toNat, ls, r)
    | .ref _ :: r => some (h, n, ls, r)
    | _ => none
  | .ifnonnull t => match st with
    | .null :: r => some (h, n, ls, r)
    | .ref _ :: r => some (h, t.toNat, ls, r)
    | _ => none
  | .if_acmp c t => match st with
    | v :: u :: r => match refO v, refO u with
      | some y, some x => if oldP x y = true then some (h, (match c with | .eq => (if x = y then t.toNat else n) | .ne => (if x = y then n else t.toNat)), ls, r) else none
      | _, _ => none
    | _ => none
  | .tableswitch d lo hi offs => match st with
    | .int x :: r => if x.toInt < lo ∨ hi < x.toInt then some (h, d.toNat, ls, r) else (offs[(x.toInt - lo).toNat]?).map (fun o => (h, o.toNat, ls, r))
    | _ => none
  | .lookupswitch d ps => match st with
    | .int x :: r => some (h, (Op.lookupswitch.offset ps.toList d x.toInt).toNat, ls, r)
    | _ => none
  | i => match st with
    | .int y :: .int x :: r => (xi i x y).map (fun v => (h, n, ls, .int v :: r))
    | .long y :: .long x :: r => (xl i x y).map (fun v => (h, n, ls, v :: r))
    | _ => none
def catS (st : List Value) : Nat := (st.map fun v => v.category).sum
def lgl : List Value → List Value
  | [] => []
  | v :: r => if v.category = 2 then v :: mk0 :: lgl r else v :: lgl r
def entL (n : Nat) (vs : List Value) : List Value := lgl vs ++ List.replicate (n - (lgl vs).length) mk0
def retOK (r : Option FieldType) (v : Int32) : Bool := match r with
  | some .int => true
  | some .boolean => v == 0 || v == 1
  | _ => false
def retRef (r : Option FieldType) : Bool := match r with
  | some (.object _) => true
  | some (.array _) => true
  | _ => false
def cpyF (f : Nat → Value) (from_ n : Nat) (d : Value) : Nat → Value := fun i => if i < n then f (from_ + i) else d
/-- members of the library that are taken whole -/
def xin (j : Nat) (h : pheap) (st : List Value) : Option (Option Value × pheap × List Value) := match j with
  | 900 => match st with
    | .ref _ :: r => some (none, h, r)
    | _ => none
  | 901 => match st with
    | .int x :: .ref a :: r => if 5 ≤ a ∧ a < h.1 ∧ (h.2.2 a).1 = 22 ∧ ¬ x < 0 ∧ x.toNatClampNeg ≤ 100000 then some (some (.ref h.1), hnew h 22 x.toNatClampNeg (cpyF (h.2.2 a).2.2 0 (min (h.2.2 a).2.1 x.toNatClampNeg) (.int 0)), r) else none
    | _ => none
  | 902 => match st with
    | .int x :: .ref a :: r => if 5 ≤ a ∧ a < h.1 ∧ (h.2.2 a).1 = 24 ∧ ¬ x < 0 ∧ x.toNatClampNeg ≤ 100000 then some (some (.ref h.1), hnew h 24 x.toNatClampNeg (cpyF (h.2.2 a).2.2 0 (min (h.2.2 a).2.1 x.toNatClampNeg) .null), r) else none
    | _ => none
  | 903 => match st with
    | .int y :: .int x :: .ref a :: r => if 5 ≤ a ∧ a < h.1 ∧ (h.2.2 a).1 = 20 ∧ ¬ x < 0 ∧ x ≤ y ∧ y.toNatClampNeg ≤ (h.2.2 a).2.1 ∧ (h.2.2 a).2.1 ≤ 100000 then some (some (.ref h.1), hnew h 20 (y.toNatClampNeg - x.toNatClampNeg) (cpyF (h.2.2 a).2.2 x.toNatClampNeg (y.toNatClampNeg - x.toNatClampNeg) (.int 0)), r) else none
    | _ => none
  | 904 => match st with
    | .int y :: .int x :: r => some (some (.int (if x < y then y else x)), h, r)
    | _ => none
  | 905 => match st with
    | .int y :: .int x :: r => some (some (.int (if y < x then y else x)), h, r)
    | _ => none
  | _ => none
/-- a call's arguments (with the receiver ahead of them) and what stays on the stack -/
def xarg (j : Nat) (kd : Nat) (h : pheap) (st : List Value) : Option (List Value × List Value) :=
  if mKind j = kd ∧ mPar j ≤ st.length then
    match kd with
    | 0 => some ((st.take (mPar j)).reverse, st.drop (mPar j))
    | 1 => match st.drop (mPar j) with
      | .ref b :: r => some (.ref b :: (st.take (mPar j)).reverse, r)
      | _ => none
    | 2 => match st.drop (mPar j) with
      | .ref b :: r => if b < h.1 ∧ (h.2.2 b).1 = mO j then some (.ref b :: (st.take (mPar j)).reverse, r) else none
      | _ => none
    | _ => none
  else none
def xc (F : Nat → pheap → Nat → Nat → List Value → List Value → Option (Option Value × pheap)) (d : Nat) (h : pheap) (k pc : Nat) (ls st : List Value) (j kd : Nat) : Option (Option Value × pheap) := match d with
  | 0 => none
  | d' + 1 => if 900 ≤ j then (if (j = 900 ∧ kd = 1) ∨ (901 ≤ j ∧ kd = 0) then match xin j h st with
      | none => none
      | some (r, h', rest) => if catS rest ≤ 8 then F (d' + 1) h' k pc ls (r.toList ++ rest) else none
      else none)
    else match xarg j kd h st with
      | none => none
      | some (as, rest) => if catS rest ≤ 8 ∧ (lgl as).length ≤ mL j then match F d' h j 0 (entL (mL j) as) [] with
        | none => none
        | some (r, h') => F (d' + 1) h' k pc ls (r.toList ++ rest)
        else none
def xe : Nat → Nat → pheap → Nat → Nat → List Value → List Value → Option (Option Value × pheap)
  | 0, _, _, _, _, _, _ => none
  | n + 1, d, h, k, pc, ls, st => match fetch k pc with
    | none => none
    | some (i, len) => match i with
      | .ireturn => match st with
        | [.int v] => if retOK (mR k) v = true then some (some (.int v), h) else none
        | _ => none
      | .lreturn => match st with
        | [.long v] => if mR k = some .long then some (some (.long v), h) else none
        | _ => none
      | .areturn => match st with
        | [.null] => if retRef (mR k) = true then some (some .null, h) else none
        | [.ref a] => if retRef (mR k) = true then some (some (.ref a), h) else none
        | _ => none
      | .return_ => match st with
        | [] => if mR k = none then some (none, h) else none
        | _ => none
      | .invokestatic j => xc (xe n) d h k (pc + len) ls st j 0
      | .invokespecial j => xc (xe n) d h k (pc + len) ls st j 1
      | .invokevirtual j => xc (xe n) d h k (pc + len) ls st j 2
      | i => match xs h (pc + len) ls st i with
        | none => none
        | some (h', pc', ls', st') => xe n d h' k pc' ls' st'
