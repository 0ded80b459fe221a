/-! an equation for each kind of instruction -/
def plainI : Instr → Bool
  | .ireturn => false
  | .lreturn => false
  | .areturn => false
  | .return_ => false
  | .invokestatic _ => false
  | .invokespecial _ => false
  | .invokevirtual _ => false
  | _ => true
section
variable {d k pc len n : Nat} {ls st : List Value} {h : pheap} {Q : Option Value → pheap → Prop}
theorem g_ask {i : Instr} {P : Prop} {h' : pheap} {pc' : Nat} {ls' st' : List Value} (hf : fetch k pc = some (i, len)) (hpl : plainI i = true) (hp : P → xs h (pc + len) ls st i = some (h', pc', ls', st')) (hn : ¬ P → xs h (pc + len) ls st i = none) : Go d k pc ls st h Q = (P ∧ Go d k pc' ls' st' h' Q) := by
  refine g_if hf hp hn ⟨?_, ?_, ?_, ?_, ?_, ?_, ?_⟩
  · rintro rfl; cases hpl
  · rintro rfl; cases hpl
  · rintro rfl; cases hpl
  · rintro rfl; cases hpl
  · rintro j rfl; cases hpl
  · rintro j rfl; cases hpl
  · rintro j rfl; cases hpl
theorem g_br {i : Instr} {b : Bool} {P : Prop} [Decidable P] {t : Int} {t' : Nat} {st' : List Value} (hf : fetch k pc = some (i, len)) (hb : (b = true) = P) (ht : t.toNat = t') (hn : pc + len = n) (hx : xs h (pc + len) ls st i = some (h, (if b = true then t.toNat else pc + len), ls, st')) : Go d k pc ls st h Q = (if P then Go d k t' ls st' h Q else Go d k n ls st' h Q) := by
  rw [g_xs hf hx]
  subst ht hn
  by_cases hP : P
  · rw [if_pos hP, if_pos (hb.mpr hP)]
  · rw [if_neg hP, if_neg (fun z => hP (hb.mp z))]
theorem g_getf {c ci kf a : Nat} (hf : fetch k pc = some (.getfield c, len)) (h1 : c / 1000 = ci) (h2 : c % 1000 = kf) (hn : pc + len = n) : Go d k pc ls (.ref a :: st) h Q = ((a < h.1 ∧ (h.2.2 a).1 = ci) ∧ Go d k n ls ((h.2.2 a).2.2 kf :: st) h Q) := by
  subst h1 h2 hn
  exact g_ask hf rfl (fun z => if_pos z) (fun z => if_neg z)
theorem g_putf {c ci kf kd a : Nat} {v : Value} (hf : fetch k pc = some (.putfield c, len)) (h1 : c / 1000 = ci) (h2 : c % 1000 = kf) (h3 : fkd c = kd) (hn : pc + len = n) : Go d k pc ls (v :: .ref a :: st) h Q = ((5 ≤ a ∧ a < h.1 ∧ (h.2.2 a).1 = ci ∧ vOK kd v = true) ∧ Go d k n ls st (hset h a kf v) Q) := by
  subst h1 h2 h3 hn
  refine g_ask hf rfl (fun z => ?_) (fun z => ?_)
  · dsimp only [xs]; exact if_pos z
  · dsimp only [xs]; exact if_neg z
theorem g_alen {a : Nat} (hf : fetch k pc = some (.arraylength, len)) (hn : pc + len = n) : Go d k pc ls (.ref a :: st) h Q = ((a < h.1 ∧ 20 ≤ (h.2.2 a).1) ∧ Go d k n ls (.int (nI (h.2.2 a).2.1) :: st) h Q) := by
  subst hn
  exact g_ask hf rfl (fun z => if_pos z) (fun z => if_neg z)
theorem g_iald {a : Nat} {j : Int32} (hf : fetch k pc = some (.iaload, len)) (hn : pc + len = n) : Go d k pc ls (.int j :: .ref a :: st) h Q = ((a < h.1 ∧ (h.2.2 a).1 = 20 ∧ isIx j (h.2.2 a).2.1 = true) ∧ Go d k n ls ((h.2.2 a).2.2 j.toNatClampNeg :: st) h Q) := by
  subst hn
  exact g_ask hf rfl (fun z => if_pos z) (fun z => if_neg z)
theorem g_lald {a : Nat} {j : Int32} (hf : fetch k pc = some (.laload, len)) (hn : pc + len = n) : Go d k pc ls (.int j :: .ref a :: st) h Q = ((a < h.1 ∧ (h.2.2 a).1 = 21 ∧ isIx j (h.2.2 a).2.1 = true) ∧ Go d k n ls ((h.2.2 a).2.2 j.toNatClampNeg :: st) h Q) := by
  subst hn
  exact g_ask hf rfl (fun z => if_pos z) (fun z => if_neg z)
theorem g_bald {a : Nat} {j : Int32} (hf : fetch k pc = some (.baload, len)) (hn : pc + len = n) : Go d k pc ls (.int j :: .ref a :: st) h Q = ((a < h.1 ∧ ((h.2.2 a).1 = 22 ∨ (h.2.2 a).1 = 23) ∧ isIx j (h.2.2 a).2.1 = true) ∧ Go d k n ls ((h.2.2 a).2.2 j.toNatClampNeg :: st) h Q) := by
  subst hn
  exact g_ask hf rfl (fun z => if_pos z) (fun z => if_neg z)
theorem g_aald {a : Nat} {j : Int32} (hf : fetch k pc = some (.aaload, len)) (hn : pc + len = n) : Go d k pc ls (.int j :: .ref a :: st) h Q = ((a < h.1 ∧ 24 ≤ (h.2.2 a).1 ∧ isIx j (h.2.2 a).2.1 = true) ∧ Go d k n ls ((h.2.2 a).2.2 j.toNatClampNeg :: st) h Q) := by
  subst hn
  exact g_ask hf rfl (fun z => if_pos z) (fun z => if_neg z)
theorem g_iast {a : Nat} {j x : Int32} (hf : fetch k pc = some (.iastore, len)) (hn : pc + len = n) : Go d k pc ls (.int x :: .int j :: .ref a :: st) h Q = ((5 ≤ a ∧ a < h.1 ∧ (h.2.2 a).1 = 20 ∧ isIx j (h.2.2 a).2.1 = true) ∧ Go d k n ls st (hset h a j.toNatClampNeg (.int x)) Q) := by
  subst hn
  exact g_ask hf rfl (fun z => if_pos z) (fun z => if_neg z)
theorem g_last {a : Nat} {j : Int32} {x : Int64} (hf : fetch k pc = some (.lastore, len)) (hn : pc + len = n) : Go d k pc ls (.long x :: .int j :: .ref a :: st) h Q = ((5 ≤ a ∧ a < h.1 ∧ (h.2.2 a).1 = 21 ∧ isIx j (h.2.2 a).2.1 = true) ∧ Go d k n ls st (hset h a j.toNatClampNeg (.long x)) Q) := by
  subst hn
  exact g_ask hf rfl (fun z => if_pos z) (fun z => if_neg z)
def bsto (t : Nat) (x : Int32) : Int32 := if t = 22 then x.toInt8.toInt32 else x &&& 1
theorem g_bast {a : Nat} {j x : Int32} (hf : fetch k pc = some (.bastore, len)) (hn : pc + len = n) : Go d k pc ls (.int x :: .int j :: .ref a :: st) h Q = ((5 ≤ a ∧ a < h.1 ∧ ((h.2.2 a).1 = 22 ∨ (h.2.2 a).1 = 23) ∧ isIx j (h.2.2 a).2.1 = true) ∧ Go d k n ls st (hset h a j.toNatClampNeg (.int (bsto (h.2.2 a).1 x))) Q) := by
  subst hn
  refine g_ask hf rfl (fun z => ?_) (fun z => ?_)
  · dsimp only [xs]
    rw [if_pos ⟨z.1, z.2.1, z.2.2.2⟩]
    unfold bsto
    rcases z.2.2.1 with t | t
    · rw [if_pos t, if_pos t]
    · rw [if_neg (by omega), if_pos t, if_neg (by omega)]
  · dsimp only [xs]
    by_cases c1 : 5 ≤ a ∧ a < h.1 ∧ isIx j (h.2.2 a).2.1 = true
    · rw [if_pos c1, if_neg (fun t => z ⟨c1.1, c1.2.1, Or.inl t, c1.2.2⟩), if_neg (fun t => z ⟨c1.1, c1.2.1, Or.inr t, c1.2.2⟩)]
    · rw [if_neg c1]
theorem g_aast {a : Nat} {j : Int32} {v : Value} (hf : fetch k pc = some (.aastore, len)) (hn : pc + len = n) : Go d k pc ls (v :: .int j :: .ref a :: st) h Q = ((5 ≤ a ∧ a < h.1 ∧ aasOK h (h.2.2 a).1 v = true ∧ isIx j (h.2.2 a).2.1 = true) ∧ Go d k n ls st (hset h a j.toNatClampNeg v) Q) := by
  subst hn
  refine g_ask hf rfl (fun z => ?_) (fun z => ?_)
  · dsimp only [xs]; exact if_pos z
  · dsimp only [xs]; exact if_neg z
theorem g_new {c nf : Nat} (hf : fetch k pc = some (.new c, len)) (hc : c < 14) (hnf : clN c = nf) (hn : pc + len = n) : Go d k pc ls st h Q = Go d k n ls (.ref h.1 :: st) (hnew h c nf (fun k => dflF (fkd (1000 * c + k)))) Q := by
  subst hn hnf
  exact g_xs hf (by dsimp only [xs]; rw [if_pos hc])
theorem g_newa {t : ArrayType} {tg : Nat} {x : Int32} (hf : fetch k pc = some (.newarray t, len)) (ht : atTag t = tg) (ht2 : tg < 24) (hn : pc + len = n) : Go d k pc ls (.int x :: st) h Q = ((¬ x < 0 ∧ x.toNatClampNeg ≤ 100000) ∧ Go d k n ls (.ref h.1 :: st) (hnew h tg x.toNatClampNeg (fun _ => dflA tg)) Q) := by
  subst hn ht
  refine g_ask hf rfl (fun z => ?_) (fun z => ?_)
  · dsimp only [xs]; exact if_pos ⟨z.1, z.2, ht2⟩
  · dsimp only [xs]; exact if_neg (fun y => z ⟨y.1, y.2.1⟩)
theorem g_anew {t : Nat} {x : Int32} (hf : fetch k pc = some (.anewarray t, len)) (h24 : 24 ≤ t ∧ t ≤ 26) (hn : pc + len = n) : Go d k pc ls (.int x :: st) h Q = ((¬ x < 0 ∧ x.toNatClampNeg ≤ 100000) ∧ Go d k n ls (.ref h.1 :: st) (hnew h t x.toNatClampNeg (fun _ => .null)) Q) := by
  subst hn
  refine g_ask hf rfl (fun z => ?_) (fun z => ?_)
  · dsimp only [xs]; exact if_pos ⟨z.1, z.2, h24.1, h24.2⟩
  · dsimp only [xs]; exact if_neg (fun y => z ⟨y.1, y.2.1⟩)
theorem g_mnew {a b : Nat} {x y : Int32} (hf : fetch k pc = some (.multianewarray a b, len)) (hn : pc + len = n) : Go d k pc ls (.int y :: .int x :: st) h Q = ((0 < x ∧ 0 < y ∧ x.toNatClampNeg ≤ 1000 ∧ y.toNatClampNeg ≤ 1000) ∧ Go d k n ls (.ref h.1 :: st) (hmul h x.toNatClampNeg y.toNatClampNeg) Q) := by
  subst hn
  exact g_ask hf rfl (fun z => if_pos z) (fun z => if_neg z)
theorem g_cast {c a : Nat} (hf : fetch k pc = some (.checkcast c, len)) (hc : c = 3 ∨ c = 4 ∨ c = 5 ∨ c = 7 ∨ c = 8 ∨ c = 9) (hn : pc + len = n) : Go d k pc ls (.ref a :: st) h Q = ((a < h.1 ∧ (h.2.2 a).1 = c) ∧ Go d k n ls (.ref a :: st) h Q) := by
  subst hn
  refine g_ask hf rfl (fun z => ?_) (fun z => ?_)
  · dsimp only [xs]; exact if_pos ⟨z.1, z.2, hc⟩
  · dsimp only [xs]; exact if_neg (fun y => z ⟨y.1, y.2.1⟩)
theorem g_st1 {i : Instr} {j : Nat} {v : Value} {r ls' : List Value} (hf : fetch k pc = some (i, len)) (hx : xs h (pc + len) ls st i = (st1 ls j v).map (fun l => (h, pc + len, l, r))) (hs : st1 ls j v = some ls') (hn : pc + len = n) : Go d k pc ls st h Q = Go d k n ls' r h Q := by
  subst hn
  exact g_xs hf (by rw [hx, hs]; rfl)
theorem g_st2 {i : Instr} {j : Nat} {v : Value} {r ls' : List Value} (hf : fetch k pc = some (i, len)) (hx : xs h (pc + len) ls st i = (st2 ls j v).map (fun l => (h, pc + len, l, r))) (hs : st2 ls j v = some ls') (hn : pc + len = n) : Go d k pc ls st h Q = Go d k n ls' r h Q := by
  subst hn
  exact g_xs hf (by rw [hx, hs]; rfl)
theorem g_irI {v : Int32} (hf : fetch k pc = some (.ireturn, len)) (hm : mR k = some .int) : Go d k pc ls [.int v] h Q = Q (some (.int v)) h := by
  rw [g_ireturn hf, hm]
  exact propext ⟨fun z => z.2, fun z => ⟨rfl, z⟩⟩
theorem g_irZ {v : Int32} (hf : fetch k pc = some (.ireturn, len)) (hm : mR k = some .boolean) : Go d k pc ls [.int v] h Q = ((v = 0 ∨ v = 1) ∧ Q (some (.int v)) h) := by
  rw [g_ireturn hf, hm]
  simp [retOK]
theorem g_lr {v : Int64} (hf : fetch k pc = some (.lreturn, len)) (hm : mR k = some .long) : Go d k pc ls [.long v] h Q = Q (some (.long v)) h := by
  rw [g_lreturn hf]
  exact propext ⟨fun z => z.2, fun z => ⟨hm, z⟩⟩
theorem g_ar {a : Nat} (hf : fetch k pc = some (.areturn, len)) (hm : retRef (mR k) = true) : Go d k pc ls [.ref a] h Q = Q (some (.ref a)) h := by
  rw [g_areturn hf]
  exact propext ⟨fun z => z.2, fun z => ⟨hm, z⟩⟩
theorem g_arN (hf : fetch k pc = some (.areturn, len)) (hm : retRef (mR k) = true) : Go d k pc ls [.null] h Q = Q (some .null) h := by
  rw [g_areturnN hf]
  exact propext ⟨fun z => z.2, fun z => ⟨hm, z⟩⟩
theorem g_vr (hf : fetch k pc = some (.return_, len)) (hm : mR k = none) : Go d k pc ls [] h Q = Q none h := by
  rw [g_return hf]
  exact propext ⟨fun z => z.2, fun z => ⟨hm, z⟩⟩
end
section
variable {d k pc len n : Nat} {ls st : List Value} {h : pheap} {Q : Option Value → pheap → Prop}
theorem g_no {i : Instr} {j kd : Nat} (hf : fetch k pc = some (i, len)) (hi : (i = .invokestatic j ∧ kd = 0) ∨ (i = .invokespecial j ∧ kd = 1) ∨ (i = .invokevirtual j ∧ kd = 2)) (hx : ∀ m, xc (xe m) d h k (pc + len) ls st j kd = none) : Go d k pc ls st h Q = False := by
  refine propext ⟨?_, fun z => z.elim⟩
  rintro ⟨m, r, h2, h1, hq⟩
  cases m with
  | zero => cases h1
  | succ m =>
    rw [g_xc (d' := d) hf hi, hx] at h1
    cases h1
theorem xarg0 {j : Nat} {as rest : List Value} (hk : mKind j = 0) (hal : as.length = mPar j) : xarg j 0 h (as.reverse ++ rest) = some (as, rest) := by
  unfold xarg
  rw [if_pos ⟨hk, by simp [hal]⟩]
  have e1 : (as.reverse ++ rest).take (mPar j) = as.reverse := by rw [← hal, ← List.length_reverse]; exact List.take_left
  have e2 : (as.reverse ++ rest).drop (mPar j) = rest := by rw [← hal, ← List.length_reverse]; exact List.drop_left
  show some (((as.reverse ++ rest).take (mPar j)).reverse, (as.reverse ++ rest).drop (mPar j)) = _
  rw [e1, e2, List.reverse_reverse]
theorem xarg1 {j b : Nat} {as rest : List Value} (hk : mKind j = 1) (hal : as.length = mPar j) : xarg j 1 h (as.reverse ++ .ref b :: rest) = some (.ref b :: as, rest) := by
  unfold xarg
  rw [if_pos ⟨hk, by simp [hal]⟩]
  have e1 : (as.reverse ++ .ref b :: rest).take (mPar j) = as.reverse := by rw [← hal, ← List.length_reverse]; exact List.take_left
  have e2 : (as.reverse ++ .ref b :: rest).drop (mPar j) = .ref b :: rest := by rw [← hal, ← List.length_reverse]; exact List.drop_left
  show (match (as.reverse ++ Value.ref b :: rest).drop (mPar j) with
      | Value.ref b' :: r => some (Value.ref b' :: ((as.reverse ++ Value.ref b :: rest).take (mPar j)).reverse, r)
      | _ => none) = _
  rw [e1, e2, List.reverse_reverse]
theorem xarg2 {j b : Nat} {as rest : List Value} (hk : mKind j = 2) (hal : as.length = mPar j) : xarg j 2 h (as.reverse ++ .ref b :: rest) = if b < h.1 ∧ (h.2.2 b).1 = mO j then some (.ref b :: as, rest) else none := by
  unfold xarg
  rw [if_pos ⟨hk, by simp [hal]⟩]
  have e1 : (as.reverse ++ .ref b :: rest).take (mPar j) = as.reverse := by rw [← hal, ← List.length_reverse]; exact List.take_left
  have e2 : (as.reverse ++ .ref b :: rest).drop (mPar j) = .ref b :: rest := by rw [← hal, ← List.length_reverse]; exact List.drop_left
  show (match (as.reverse ++ Value.ref b :: rest).drop (mPar j) with
      | Value.ref b' :: r => if b' < h.1 ∧ (h.2.2 b').1 = mO j then some (Value.ref b' :: ((as.reverse ++ Value.ref b :: rest).take (mPar j)).reverse, r) else none
      | _ => none) = _
  rw [e1, e2, List.reverse_reverse]
theorem xc_no {F : Nat → pheap → Nat → Nat → List Value → List Value → Option (Option Value × pheap)} {j kd : Nat} {as rest : List Value} (hj : j < 900) (ha : xarg j kd h st = some (as, rest)) (hc : ¬ (catS rest ≤ 8 ∧ (lgl as).length ≤ mL j)) : xc F (d + 1) h k pc ls st j kd = none := by
  unfold xc
  dsimp only
  rw [if_neg (by omega), ha]
  dsimp only
  rw [if_neg hc]
theorem g_cS {j ml : Nat} {as rest el : List Value} (hf : fetch k pc = some (.invokestatic j, len)) (hj : j < 900) (hk : mKind j = 0) (hal : as.length = mPar j) (hm : mL j = ml) (hlen : (lgl as).length ≤ ml) (hent : entL ml as = el) (hn : pc + len = n) : Go (d + 1) k pc ls (as.reverse ++ rest) h Q = (catS rest ≤ 8 ∧ Go d j 0 el [] h (fun r h' => Go (d + 1) k n ls (r.toList ++ rest) h' Q)) := by
  subst hm hent hn
  by_cases hc : catS rest ≤ 8
  · rw [g_call hf (Or.inl ⟨rfl, rfl⟩) hj (xarg0 hk hal) ⟨hc, hlen⟩]
    exact propext ⟨fun z => ⟨hc, z⟩, fun z => z.2⟩
  · rw [g_no hf (Or.inl ⟨rfl, rfl⟩) (fun m => xc_no hj (xarg0 hk hal) (fun z => hc z.1))]
    exact propext ⟨fun z => z.elim, fun z => absurd z.1 hc⟩
theorem g_cI {j ml b : Nat} {as rest el : List Value} (hf : fetch k pc = some (.invokespecial j, len)) (hj : j < 900) (hk : mKind j = 1) (hal : as.length = mPar j) (hm : mL j = ml) (hlen : (lgl (.ref b :: as)).length ≤ ml) (hent : entL ml (.ref b :: as) = el) (hn : pc + len = n) : Go (d + 1) k pc ls (as.reverse ++ .ref b :: rest) h Q = (catS rest ≤ 8 ∧ Go d j 0 el [] h (fun r h' => Go (d + 1) k n ls (r.toList ++ rest) h' Q)) := by
  subst hm hent hn
  by_cases hc : catS rest ≤ 8
  · rw [g_call hf (Or.inr (Or.inl ⟨rfl, rfl⟩)) hj (xarg1 hk hal) ⟨hc, hlen⟩]
    exact propext ⟨fun z => ⟨hc, z⟩, fun z => z.2⟩
  · rw [g_no hf (Or.inr (Or.inl ⟨rfl, rfl⟩)) (fun m => xc_no hj (xarg1 hk hal) (fun z => hc z.1))]
    exact propext ⟨fun z => z.elim, fun z => absurd z.1 hc⟩
theorem g_cV {j ml b mo : Nat} {as rest el : List Value} (hf : fetch k pc = some (.invokevirtual j, len)) (hj : j < 900) (hk : mKind j = 2) (hal : as.length = mPar j) (hm : mL j = ml) (hmo : mO j = mo) (hlen : (lgl (.ref b :: as)).length ≤ ml) (hent : entL ml (.ref b :: as) = el) (hn : pc + len = n) : Go (d + 1) k pc ls (as.reverse ++ .ref b :: rest) h Q = ((b < h.1 ∧ (h.2.2 b).1 = mo) ∧ catS rest ≤ 8 ∧ Go d j 0 el [] h (fun r h' => Go (d + 1) k n ls (r.toList ++ rest) h' Q)) := by
  subst hm hent hn hmo
  have hx := xarg2 (h := h) (b := b) (rest := rest) hk hal
  by_cases hb : b < h.1 ∧ (h.2.2 b).1 = mO j
  · rw [if_pos hb] at hx
    by_cases hc : catS rest ≤ 8
    · rw [g_call hf (Or.inr (Or.inr ⟨rfl, rfl⟩)) hj hx ⟨hc, hlen⟩]
      exact propext ⟨fun z => ⟨hb, hc, z⟩, fun z => z.2.2⟩
    · rw [g_no hf (Or.inr (Or.inr ⟨rfl, rfl⟩)) (fun m => xc_no hj hx (fun z => hc z.1))]
      exact propext ⟨fun z => z.elim, fun z => absurd z.2.1 hc⟩
  · rw [if_neg hb] at hx
    rw [g_no hf (Or.inr (Or.inr ⟨rfl, rfl⟩)) (fun m => by
      unfold xc
      dsimp only
      rw [if_neg (by omega), hx])]
    exact propext ⟨fun z => z.elim, fun z => absurd z.1 hb⟩
theorem g_in0 {a : Nat} (hf : fetch k pc = some (.invokespecial 900, len)) (hn : pc + len = n) : Go (d + 1) k pc ls (.ref a :: st) h Q = (catS st ≤ 8 ∧ Go (d + 1) k n ls st h Q) := by
  subst hn
  by_cases hc : catS st ≤ 8
  · rw [g_intr (j := 900) (kd := 1) hf (Or.inr (Or.inl ⟨rfl, rfl⟩)) (by decide) (Or.inl ⟨rfl, rfl⟩) (r := none) (h' := h) (rest := st) rfl hc]
    exact propext ⟨fun z => ⟨hc, z⟩, fun z => z.2⟩
  · rw [g_no (j := 900) (kd := 1) hf (Or.inr (Or.inl ⟨rfl, rfl⟩)) (fun m => by
      have hx : xin 900 h (.ref a :: st) = some (none, h, st) := rfl
      unfold xc
      dsimp only
      rw [if_pos (by decide), if_pos (by decide), hx]
      dsimp only
      rw [if_neg hc])]
    exact propext ⟨fun z => z.elim, fun z => absurd z.1 hc⟩
theorem g_inS {j : Nat} {P : Prop} {r : Value} {h' : pheap} {rest : List Value} (hf : fetch k pc = some (.invokestatic j, len)) (hj : 901 ≤ j) (hp : P → xin j h st = some (some r, h', rest)) (hnp : ¬ P → xin j h st = none) (hn : pc + len = n) : Go (d + 1) k pc ls st h Q = (P ∧ catS rest ≤ 8 ∧ Go (d + 1) k n ls (r :: rest) h' Q) := by
  subst hn
  by_cases hP : P
  · by_cases hc : catS rest ≤ 8
    · rw [g_intr (kd := 0) hf (Or.inl ⟨rfl, rfl⟩) (by omega) (Or.inr ⟨hj, rfl⟩) (hp hP) hc]
      exact propext ⟨fun z => ⟨hP, hc, z⟩, fun z => z.2.2⟩
    · rw [g_no (kd := 0) hf (Or.inl ⟨rfl, rfl⟩) (fun m => by
        unfold xc
        dsimp only
        rw [if_pos (by omega), if_pos (Or.inr ⟨hj, rfl⟩), hp hP]
        dsimp only
        rw [if_neg hc])]
      exact propext ⟨fun z => z.elim, fun z => absurd z.2.1 hc⟩
  · rw [g_no (kd := 0) hf (Or.inl ⟨rfl, rfl⟩) (fun m => by
      unfold xc
      dsimp only
      rw [if_pos (by omega), if_pos (Or.inr ⟨hj, rfl⟩), hnp hP])]
    exact propext ⟨fun z => z.elim, fun z => absurd z.1 hP⟩
theorem g_mmax {x y : Int32} (hf : fetch k pc = some (.invokestatic 904, len)) (hn : pc + len = n) : Go (d + 1) k pc ls (.int y :: .int x :: st) h Q = (catS st ≤ 8 ∧ Go (d + 1) k n ls (.int (if x < y then y else x) :: st) h Q) := by
  rw [g_inS (P := True) (r := .int (if x < y then y else x)) (h' := h) (rest := st) hf (by decide) (fun _ => rfl) (fun z => absurd trivial z) hn]
  exact propext ⟨fun z => z.2, fun z => ⟨trivial, z⟩⟩
theorem g_mmin {x y : Int32} (hf : fetch k pc = some (.invokestatic 905, len)) (hn : pc + len = n) : Go (d + 1) k pc ls (.int y :: .int x :: st) h Q = (catS st ≤ 8 ∧ Go (d + 1) k n ls (.int (if y < x then y else x) :: st) h Q) := by
  rw [g_inS (P := True) (r := .int (if y < x then y else x)) (h' := h) (rest := st) hf (by decide) (fun _ => rfl) (fun z => absurd trivial z) hn]
  exact propext ⟨fun z => z.2, fun z => ⟨trivial, z⟩⟩
theorem g_cpB {a : Nat} {x : Int32} (hf : fetch k pc = some (.invokestatic 901, len)) (hn : pc + len = n) : Go (d + 1) k pc ls (.int x :: .ref a :: st) h Q = ((5 ≤ a ∧ a < h.1 ∧ (h.2.2 a).1 = 22 ∧ ¬ x < 0 ∧ x.toNatClampNeg ≤ 100000) ∧ catS st ≤ 8 ∧ Go (d + 1) k n ls (.ref h.1 :: st) (hnew h 22 x.toNatClampNeg (cpyF (h.2.2 a).2.2 0 (min (h.2.2 a).2.1 x.toNatClampNeg) (.int 0))) Q) :=
  g_inS hf (by decide) (fun z => if_pos z) (fun z => if_neg z) hn
theorem g_cpO {a : Nat} {x : Int32} (hf : fetch k pc = some (.invokestatic 902, len)) (hn : pc + len = n) : Go (d + 1) k pc ls (.int x :: .ref a :: st) h Q = ((5 ≤ a ∧ a < h.1 ∧ (h.2.2 a).1 = 24 ∧ ¬ x < 0 ∧ x.toNatClampNeg ≤ 100000) ∧ catS st ≤ 8 ∧ Go (d + 1) k n ls (.ref h.1 :: st) (hnew h 24 x.toNatClampNeg (cpyF (h.2.2 a).2.2 0 (min (h.2.2 a).2.1 x.toNatClampNeg) .null)) Q) :=
  g_inS hf (by decide) (fun z => if_pos z) (fun z => if_neg z) hn
theorem g_cpR {a : Nat} {x y : Int32} (hf : fetch k pc = some (.invokestatic 903, len)) (hn : pc + len = n) : Go (d + 1) k pc ls (.int y :: .int x :: .ref a :: st) h Q = ((5 ≤ a ∧ a < h.1 ∧ (h.2.2 a).1 = 20 ∧ ¬ x < 0 ∧ x ≤ y ∧ y.toNatClampNeg ≤ (h.2.2 a).2.1 ∧ (h.2.2 a).2.1 ≤ 100000) ∧ catS st ≤ 8 ∧ Go (d + 1) k n ls (.ref h.1 :: st) (hnew h 20 (y.toNatClampNeg - x.toNatClampNeg) (cpyF (h.2.2 a).2.2 x.toNatClampNeg (y.toNatClampNeg - x.toNatClampNeg) (.int 0))) Q) :=
  g_inS hf (by decide) (fun z => if_pos z) (fun z => if_neg z) hn
theorem catS_nil : catS [] = 0 := rfl
theorem catS_cons (v : Value) (r : List Value) : catS (v :: r) = v.category + catS r := by unfold catS; simp
theorem cat_int (x : Int32) : (Value.int x).category = 1 := rfl
theorem cat_long (x : Int64) : (Value.long x).category = 2 := rfl
theorem cat_ref (x : Nat) : (Value.ref x).category = 1 := rfl
theorem cat_null : Value.null.category = 1 := rfl
theorem cat_mk : mk0.category = 1 := rfl
end
/-- a value of one word -/
def isC1 (v : Value) : Prop := v.category = 1
theorem isC1_eq {v : Value} (h : isC1 v) : v.category = 1 := h
theorem c1_i (x : Int32) : isC1 (.int x) := rfl
theorem c1_r (x : Nat) : isC1 (.ref x) := rfl
theorem c1_n : isC1 .null := rfl
theorem c1_m : isC1 mk0 := rfl
/-- two references that may be compared -/
def acOK (a b : Nat) : Prop := a = b ∨ 5 ≤ a ∨ 5 ≤ b
theorem ac_l {a b : Nat} (h : 5 ≤ a) : acOK a b := Or.inr (Or.inl h)
theorem ac_r {a b : Nat} (h : 5 ≤ b) : acOK a b := Or.inr (Or.inr h)
section
variable {d k pc len n : Nat} {ls st : List Value} {h : pheap} {Q : Option Value → pheap → Prop}
theorem st1_ok {j : Nat} {v : Value} (hi : j < ls.length) (hc : j = 0 ∨ (ls.getD (j - 1) .null).category = 1) : st1 ls j v = some (ls.set j v) := if_pos ⟨hi, hc⟩
theorem st2_ok {j : Nat} {v : Value} (hi : j + 1 < ls.length) (hc : j = 0 ∨ (ls.getD (j - 1) .null).category = 1) : st2 ls j v = some ((ls.set j v).set (j + 1) mk0) := if_pos ⟨hi, hc⟩
theorem g_acR {a b t' : Nat} {t : Int} (hf : fetch k pc = some (.if_acmp .eq t, len)) (ho : acOK a b) (ht : t.toNat = t') (hn : pc + len = n) : Go d k pc ls (.ref b :: .ref a :: st) h Q = (if a = b then Go d k t' ls st h Q else Go d k n ls st h Q) := by
  subst ht hn
  have hp : oldP (some a) (some b) = true := by
    unfold oldP
    rcases ho with z | z | z <;> simp [z]
  have hx : xs h (pc + len) ls (.ref b :: .ref a :: st) (.if_acmp .eq t) = some (h, (if a = b then t.toNat else pc + len), ls, st) := by
    dsimp only [xs, refO]
    rw [if_pos hp]
    simp
  rw [g_xs hf hx]
  split <;> rfl
theorem g_acRn {a b t' : Nat} {t : Int} (hf : fetch k pc = some (.if_acmp .ne t, len)) (ho : acOK a b) (ht : t.toNat = t') (hn : pc + len = n) : Go d k pc ls (.ref b :: .ref a :: st) h Q = (if a = b then Go d k n ls st h Q else Go d k t' ls st h Q) := by
  subst ht hn
  have hp : oldP (some a) (some b) = true := by
    unfold oldP
    rcases ho with z | z | z <;> simp [z]
  have hx : xs h (pc + len) ls (.ref b :: .ref a :: st) (.if_acmp .ne t) = some (h, (if a = b then pc + len else t.toNat), ls, st) := by
    dsimp only [xs, refO]
    rw [if_pos hp]
    simp
  rw [g_xs hf hx]
  split <;> rfl
/-- where a switch goes -/
def tsw (df lo hi : Int) (offs : List Nat) (x : Int32) : Nat := if x.toInt < lo ∨ hi < x.toInt then df.toNat else offs.getD (x.toInt - lo).toNat 0
theorem g_tsw {df lo hi : Int} {offs : Array Int} {os : List Nat} {x : Int32} (hf : fetch k pc = some (.tableswitch df lo hi offs, len)) (ho : offs.toList.map Int.toNat = os) (hl : (os.length : Int) = hi - lo + 1) (_hp : 0 ≤ df) : Go d k pc ls (.int x :: st) h Q = Go d k (tsw df lo hi os x) ls st h Q := by
  refine g_xs hf ?_
  dsimp only [xs]
  unfold tsw
  by_cases hx : x.toInt < lo ∨ hi < x.toInt
  · rw [if_pos hx, if_pos hx]
  · rw [if_neg hx, if_neg hx]
    subst ho
    have hsz : offs.toList.length = offs.size := Array.length_toList
    rw [List.length_map] at hl
    have hlt : (x.toInt - lo).toNat < offs.size := by omega
    rw [Array.getElem?_eq_getElem hlt]
    simp [List.getD_eq_getElem?_getD, hlt]
def lsw (df : Int) (ps : List (Int × Int)) (x : Int32) : Nat := (Op.lookupswitch.offset ps df x.toInt).toNat
theorem g_lsw {df : Int} {ps : Array (Int × Int)} {qs : List (Int × Int)} {x : Int32} (hf : fetch k pc = some (.lookupswitch df ps, len)) (ho : ps.toList = qs) (_h : True = True) : Go d k pc ls (.int x :: st) h Q = Go d k (lsw df qs x) ls st h Q := by
  subst ho
  exact g_xs hf rfl
/-- a switch as a row of questions -/
def tswGo (G : Nat → Prop) (df : Nat) (x : Int32) : Int32 → List Nat → Prop
  | _, [] => G df
  | c, o :: os => if x = c then G o else tswGo G df x (c + 1) os
theorem tswGo_eq {G : Nat → Prop} {df hi : Int} {x : Int32} (hhi : hi < 2147483646) : ∀ {os : List Nat} {c : Int32} {lo : Int}, c.toInt = lo → lo + os.length = hi + 1 → G (tsw df lo hi os x) = tswGo G df.toNat x c os
  | [], c, lo, hc, hl => by
    show G (tsw df lo hi [] x) = G df.toNat
    unfold tsw
    rw [if_pos (by simp at hl; omega)]
  | o :: os, c, lo, hc, hl => by
    have hl2 : lo + (os.length + 1) = hi + 1 := by simpa using hl
    show G (tsw df lo hi (o :: os) x) = if x = c then G o else tswGo G df.toNat x (c + 1) os
    by_cases hx : x = c
    · rw [if_pos hx]
      unfold tsw
      have e1 : x.toInt = lo := by rw [hx]; exact hc
      rw [if_neg (by omega), e1, Int.sub_self]
      rfl
    · rw [if_neg hx]
      have hne : x.toInt ≠ lo := fun z => hx (Int32.toInt_inj.mp (z.trans hc.symm))
      have hc1 : (c + 1).toInt = lo + 1 := by
        have h1 := Int32.toInt_lt c
        have h2 := Int32.le_toInt c
        rw [Int32.toInt_add, hc, show (1 : Int32).toInt = 1 from rfl]
        rw [Int.bmod_eq_of_le] <;> omega
      rw [← tswGo_eq hhi hc1 (by omega)]
      congr 1
      unfold tsw
      by_cases h3 : x.toInt < lo ∨ hi < x.toInt
      · rw [if_pos h3, if_pos (by omega)]
      · rw [if_neg h3, if_neg (by omega)]
        have e2 : (x.toInt - lo).toNat = (x.toInt - (lo + 1)).toNat + 1 := by omega
        rw [e2]
        rfl
def lswGo (G : Nat → Prop) (df : Nat) (x : Int32) : List (Int32 × Nat) → Prop
  | [] => G df
  | q :: qs => if x = q.1 then G q.2 else lswGo G df x qs
theorem lswGo_eq {G : Nat → Prop} {df : Int} {x : Int32} : ∀ {ps : List (Int × Int)} {qs : List (Int32 × Nat)}, ps.map (fun q => q.1) = qs.map (fun q => q.1.toInt) → ps.map (fun q => q.2.toNat) = qs.map (fun q => q.2) → G (lsw df ps x) = lswGo G df.toNat x qs
  | [], [], _, _ => rfl
  | [], _ :: _, h, _ => by simp at h
  | _ :: _, [], h, _ => by simp at h
  | (a, o) :: ps, (b, t) :: qs, h1, h2 => by
    simp only [List.map_cons, List.cons.injEq] at h1 h2
    show G (lsw df ((a, o) :: ps) x) = if x = b then G t else lswGo G df.toNat x qs
    rw [← lswGo_eq h1.2 h2.2]
    unfold lsw
    rw [Op.lookupswitch.offset_cons]
    by_cases hx : x = b
    · rw [if_pos hx, if_pos (by rw [h1.1, hx]), h2.1]
    · rw [if_neg hx, if_neg (fun z => hx (Int32.toInt_inj.mp (z.symm.trans h1.1)))]
end
