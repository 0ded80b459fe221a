/-! the machine's instruction, one at a time, over the pure heap -/
def WW (p : Program) (l : Launch) (e : Env) (R : Room) (s : State) (m : MethodId) (args : Array Value) (below : List Frame) (meth : Method) (c : Code) (Q : State → Prop) (C : cx) (b1 b2 : Nat) (h : pheap) (pc : Nat) (ls st : List Value) : Prop :=
  ∀ (H : Heap) (A : Array Slot) (locs : List Loc), Rp C h H → lR C ls A → (∀ q ∈ locs, C.2.2.2.1 ≤ q.base) → W p l e R s m args below meth c H locs (h.1 - b1) (h.2.1 - b2) Q (F0 m pc A (st.map (rv C)))
def FCx (C : cx) (p : Program) (s : State) (m : MethodId) (args : Array Value) (meth : Method) (c : Code) (k : Nat) : Prop :=
  p.tables.exec = Jvm.exec ∧ c.code = mB k ∧ c.maxLocals = mL k ∧ s.vm.findClass (cn (mO k)) = some m.cls ∧ (∀ w ∈ lw_use, w.before args s = true) ∧ C.1.vm.Alike s.vm ∧ (k = 287 ∨ meth.name = (mY k).name) ∧ (mY k).cls = cn (mO k) ∧ C.1.WarmedH s.vm
theorem rv_ne {v : Value} (h : v.category = 2 ∨ (∃ x, v = .int x) ∨ (∃ a, v = .ref a) ∨ v = .null) : v ≠ mk0 := by
  rintro rfl
  rcases h with h | ⟨x, h⟩ | ⟨x, h⟩ | h
  · simp [Value.category] at h
  · cases h
  · cases h
  · cases h
section
variable {p : Program} {l : Launch} {e : Env} {R : Room} {s : State} {m : MethodId} {args : Array Value} {below : List Frame} {meth : Method} {c : Code} {Q : State → Prop}
variable {C : cx} {k b1 b2 pc : Nat} {h : pheap} {ls r : List Value}
theorem w_iconst (F : FCx C p s m args meth c k) {n : Int} (hd : decode (mB k) pc = .ok (.iconst n, 1))  (kk : WW p l e R s m args below meth c Q C b1 b2 h (pc + 1) ls (.int (Int32.ofInt n) :: r)) : WW p l e R s m args below meth c Q C b1 b2 h pc ls (r) :=
  fun H A locs hR hl hc => lv_iconst F.1 F.2.1 hd rfl (kk H A locs hR hl hc)
theorem w_bipush (F : FCx C p s m args meth c k) {n : Int} (hd : decode (mB k) pc = .ok (.bipush n, 2))  (kk : WW p l e R s m args below meth c Q C b1 b2 h (pc + 2) ls (.int (Int8.ofInt n).toInt32 :: r)) : WW p l e R s m args below meth c Q C b1 b2 h pc ls (r) :=
  fun H A locs hR hl hc => lv_bipush F.1 F.2.1 hd rfl (kk H A locs hR hl hc)
theorem w_sipush (F : FCx C p s m args meth c k) {n : Int} (hd : decode (mB k) pc = .ok (.sipush n, 3))  (kk : WW p l e R s m args below meth c Q C b1 b2 h (pc + 3) ls (.int (Int16.ofInt n).toInt32 :: r)) : WW p l e R s m args below meth c Q C b1 b2 h pc ls (r) :=
  fun H A locs hR hl hc => lv_sipush F.1 F.2.1 hd rfl (kk H A locs hR hl hc)
theorem w_lconst (F : FCx C p s m args meth c k) {n : Fin 2} (hd : decode (mB k) pc = .ok (.lconst n, 1))  (kk : WW p l e R s m args below meth c Q C b1 b2 h (pc + 1) ls (.long (Int64.ofNat n.val) :: r)) : WW p l e R s m args below meth c Q C b1 b2 h pc ls (r) :=
  fun H A locs hR hl hc => lv_lconst F.1 F.2.1 hd rfl (kk H A locs hR hl hc)
theorem w_null (F : FCx C p s m args meth c k)  (hd : decode (mB k) pc = .ok (.aconst_null, 1))  (kk : WW p l e R s m args below meth c Q C b1 b2 h (pc + 1) ls (.null :: r)) : WW p l e R s m args below meth c Q C b1 b2 h pc ls (r) :=
  fun H A locs hR hl hc => lv_null F.1 F.2.1 hd (kk H A locs hR hl hc)
theorem w_ldc (F : FCx C p s m args meth c k) {i : Nat} {v : Int32} (hw : Cond.constant (cn (mO k)) i v ∈ lw_use) (hd : decode (mB k) pc = .ok (.ldc i, 2)) (kk : WW p l e R s m args below meth c Q C b1 b2 h (pc + 2) ls (.int v :: r)) : WW p l e R s m args below meth c Q C b1 b2 h pc ls r :=
  fun H A locs hR hl hc => lv_ldc F.1 F.2.1 F.2.2.2.1 (F.2.2.2.2.1 _ hw) hd (kk H A locs hR hl hc)
theorem w_ldcw (F : FCx C p s m args meth c k) {i : Nat} {v : Int32} (hw : Cond.constant (cn (mO k)) i v ∈ lw_use) (hd : decode (mB k) pc = .ok (.ldc_w i, 3)) (kk : WW p l e R s m args below meth c Q C b1 b2 h (pc + 3) ls (.int v :: r)) : WW p l e R s m args below meth c Q C b1 b2 h pc ls r :=
  fun H A locs hR hl hc => lv_ldcw F.1 F.2.1 F.2.2.2.1 (F.2.2.2.2.1 _ hw) hd (kk H A locs hR hl hc)
theorem w_ldc2 (F : FCx C p s m args meth c k) {i : Nat} {v : Int64} (hw : Cond.constantLong (cn (mO k)) i v ∈ lw_use) (hd : decode (mB k) pc = .ok (.ldc2_w i, 3)) (kk : WW p l e R s m args below meth c Q C b1 b2 h (pc + 3) ls (.long v :: r)) : WW p l e R s m args below meth c Q C b1 b2 h pc ls r :=
  fun H A locs hR hl hc => lv_ldc2 F.1 F.2.1 F.2.2.2.1 (F.2.2.2.2.1 _ hw) hd (kk H A locs hR hl hc)
theorem w_iload_n (F : FCx C p s m args meth c k) {n : Fin 4} {x : Int32} (hv : ls[n.val]? = some (.int x)) (hd : decode (mB k) pc = .ok (.iload_n n, 1)) (kk : WW p l e R s m args below meth c Q C b1 b2 h (pc + 1) ls (.int x :: r)) : WW p l e R s m args below meth c Q C b1 b2 h pc ls r :=
  fun H A locs hR hl hc => lv_iload_n F.1 F.2.1 hd rfl (lR_at hl hv (rv_ne (Or.inr (Or.inl ⟨_, rfl⟩)))) (kk H A locs hR hl hc)
theorem w_iload (F : FCx C p s m args meth c k) {i : Nat} {x : Int32} (hv : ls[i]? = some (.int x)) (hd : decode (mB k) pc = .ok (.iload i, 2)) (kk : WW p l e R s m args below meth c Q C b1 b2 h (pc + 2) ls (.int x :: r)) : WW p l e R s m args below meth c Q C b1 b2 h pc ls r :=
  fun H A locs hR hl hc => lv_iload F.1 F.2.1 hd (lR_at hl hv (rv_ne (Or.inr (Or.inl ⟨_, rfl⟩)))) (kk H A locs hR hl hc)
theorem w_lload_n (F : FCx C p s m args meth c k) {n : Fin 4} {x : Int64} (hv : ls[n.val]? = some (.long x)) (hd : decode (mB k) pc = .ok (.lload_n n, 1)) (kk : WW p l e R s m args below meth c Q C b1 b2 h (pc + 1) ls (.long x :: r)) : WW p l e R s m args below meth c Q C b1 b2 h pc ls r :=
  fun H A locs hR hl hc => lv_lload_n F.1 F.2.1 hd rfl (lR_at hl hv (rv_ne (Or.inl rfl))) (kk H A locs hR hl hc)
theorem w_lload (F : FCx C p s m args meth c k) {i : Nat} {x : Int64} (hv : ls[i]? = some (.long x)) (hd : decode (mB k) pc = .ok (.lload i, 2)) (kk : WW p l e R s m args below meth c Q C b1 b2 h (pc + 2) ls (.long x :: r)) : WW p l e R s m args below meth c Q C b1 b2 h pc ls r :=
  fun H A locs hR hl hc => lv_lload F.1 F.2.1 hd (lR_at hl hv (rv_ne (Or.inl rfl))) (kk H A locs hR hl hc)
theorem w_aload_n (F : FCx C p s m args meth c k) {n : Fin 4} {x : Nat} (hv : ls[n.val]? = some (.ref x)) (hd : decode (mB k) pc = .ok (.aload_n n, 1)) (kk : WW p l e R s m args below meth c Q C b1 b2 h (pc + 1) ls (.ref x :: r)) : WW p l e R s m args below meth c Q C b1 b2 h pc ls r :=
  fun H A locs hR hl hc => lv_aload_n F.1 F.2.1 hd rfl (lR_at hl hv (rv_ne (Or.inr (Or.inr (Or.inl ⟨_, rfl⟩))))) (kk H A locs hR hl hc)
theorem w_aload (F : FCx C p s m args meth c k) {i : Nat} {x : Nat} (hv : ls[i]? = some (.ref x)) (hd : decode (mB k) pc = .ok (.aload i, 2)) (kk : WW p l e R s m args below meth c Q C b1 b2 h (pc + 2) ls (.ref x :: r)) : WW p l e R s m args below meth c Q C b1 b2 h pc ls r :=
  fun H A locs hR hl hc => lv_aload F.1 F.2.1 hd (lR_at hl hv (rv_ne (Or.inr (Or.inr (Or.inl ⟨_, rfl⟩))))) (kk H A locs hR hl hc)
theorem w_aload_nN (F : FCx C p s m args meth c k) {n : Fin 4} (hv : ls[n.val]? = some .null) (hd : decode (mB k) pc = .ok (.aload_n n, 1)) (kk : WW p l e R s m args below meth c Q C b1 b2 h (pc + 1) ls (.null :: r)) : WW p l e R s m args below meth c Q C b1 b2 h pc ls r :=
  fun H A locs hR hl hc => lv_aload_nN F.1 F.2.1 hd rfl (lR_at hl hv (rv_ne (Or.inr (Or.inr (Or.inr rfl))))) (kk H A locs hR hl hc)
theorem w_aloadN (F : FCx C p s m args meth c k) {i : Nat} (hv : ls[i]? = some .null) (hd : decode (mB k) pc = .ok (.aload i, 2)) (kk : WW p l e R s m args below meth c Q C b1 b2 h (pc + 2) ls (.null :: r)) : WW p l e R s m args below meth c Q C b1 b2 h pc ls r :=
  fun H A locs hR hl hc => lv_aloadN F.1 F.2.1 hd (lR_at hl hv (rv_ne (Or.inr (Or.inr (Or.inr rfl))))) (kk H A locs hR hl hc)
theorem w_istore_n (F : FCx C p s m args meth c k) {n : Fin 4} {ls' : List Value} {x : Int32} (hs : st1 ls n.val (.int x) = some ls') (hd : decode (mB k) pc = .ok (.istore_n n, 1)) (kk : WW p l e R s m args below meth c Q C b1 b2 h (pc + 1) ls' r) : WW p l e R s m args below meth c Q C b1 b2 h pc ls (.int x :: r) :=
  fun H A locs hR hl hc => lv_istore_n F.1 F.2.1 hd rfl hl (st1_len hs).1 rfl (fun A' hl' => kk H A' locs hR (lR_st1 hs hl') hc)
theorem w_istore (F : FCx C p s m args meth c k) {i : Nat} {ls' : List Value} {x : Int32} (hs : st1 ls i (.int x) = some ls') (hd : decode (mB k) pc = .ok (.istore i, 2)) (kk : WW p l e R s m args below meth c Q C b1 b2 h (pc + 2) ls' r) : WW p l e R s m args below meth c Q C b1 b2 h pc ls (.int x :: r) :=
  fun H A locs hR hl hc => lv_istore F.1 F.2.1 hd hl (st1_len hs).1 rfl (fun A' hl' => kk H A' locs hR (lR_st1 hs hl') hc)
theorem w_lstore_n (F : FCx C p s m args meth c k) {n : Fin 4} {ls' : List Value} {x : Int64} (hs : st2 ls n.val (.long x) = some ls') (hd : decode (mB k) pc = .ok (.lstore_n n, 1)) (kk : WW p l e R s m args below meth c Q C b1 b2 h (pc + 1) ls' r) : WW p l e R s m args below meth c Q C b1 b2 h pc ls (.long x :: r) :=
  fun H A locs hR hl hc => lv_lstore_n F.1 F.2.1 hd rfl hl (st2_len hs).1 rfl (fun A' hl' => kk H A' locs hR (lR_st2 hs hl') hc)
theorem w_lstore (F : FCx C p s m args meth c k) {i : Nat} {ls' : List Value} {x : Int64} (hs : st2 ls i (.long x) = some ls') (hd : decode (mB k) pc = .ok (.lstore i, 2)) (kk : WW p l e R s m args below meth c Q C b1 b2 h (pc + 2) ls' r) : WW p l e R s m args below meth c Q C b1 b2 h pc ls (.long x :: r) :=
  fun H A locs hR hl hc => lv_lstore F.1 F.2.1 hd hl (st2_len hs).1 rfl (fun A' hl' => kk H A' locs hR (lR_st2 hs hl') hc)
theorem w_astore_n (F : FCx C p s m args meth c k) {n : Fin 4} {ls' : List Value} {x : Nat} (hs : st1 ls n.val (.ref x) = some ls') (hd : decode (mB k) pc = .ok (.astore_n n, 1)) (kk : WW p l e R s m args below meth c Q C b1 b2 h (pc + 1) ls' r) : WW p l e R s m args below meth c Q C b1 b2 h pc ls (.ref x :: r) :=
  fun H A locs hR hl hc => lv_astore_n F.1 F.2.1 hd rfl hl (st1_len hs).1 rfl (fun A' hl' => kk H A' locs hR (lR_st1 hs hl') hc)
theorem w_astore (F : FCx C p s m args meth c k) {i : Nat} {ls' : List Value} {x : Nat} (hs : st1 ls i (.ref x) = some ls') (hd : decode (mB k) pc = .ok (.astore i, 2)) (kk : WW p l e R s m args below meth c Q C b1 b2 h (pc + 2) ls' r) : WW p l e R s m args below meth c Q C b1 b2 h pc ls (.ref x :: r) :=
  fun H A locs hR hl hc => lv_astore F.1 F.2.1 hd hl (st1_len hs).1 rfl (fun A' hl' => kk H A' locs hR (lR_st1 hs hl') hc)
theorem w_astore_nN (F : FCx C p s m args meth c k) {n : Fin 4} {ls' : List Value}  (hs : st1 ls n.val (.null) = some ls') (hd : decode (mB k) pc = .ok (.astore_n n, 1)) (kk : WW p l e R s m args below meth c Q C b1 b2 h (pc + 1) ls' r) : WW p l e R s m args below meth c Q C b1 b2 h pc ls (.null :: r) :=
  fun H A locs hR hl hc => lv_astore_nN F.1 F.2.1 hd rfl hl (st1_len hs).1 rfl (fun A' hl' => kk H A' locs hR (lR_st1 hs hl') hc)
theorem w_astoreN (F : FCx C p s m args meth c k) {i : Nat} {ls' : List Value}  (hs : st1 ls i (.null) = some ls') (hd : decode (mB k) pc = .ok (.astore i, 2)) (kk : WW p l e R s m args below meth c Q C b1 b2 h (pc + 2) ls' r) : WW p l e R s m args below meth c Q C b1 b2 h pc ls (.null :: r) :=
  fun H A locs hR hl hc => lv_astoreN F.1 F.2.1 hd hl (st1_len hs).1 rfl (fun A' hl' => kk H A' locs hR (lR_st1 hs hl') hc)
theorem w_iinc (F : FCx C p s m args meth c k) {i : Nat} {n : Int} {x : Int32} {ls' : List Value} (hv : ls[i]? = some (.int x)) (hs : st1 ls i (.int (x + Int32.ofInt n)) = some ls') (hd : decode (mB k) pc = .ok (.iinc i n, 3)) (kk : WW p l e R s m args below meth c Q C b1 b2 h (pc + 3) ls' r) : WW p l e R s m args below meth c Q C b1 b2 h pc ls r := by
  intro H A locs hR hl hc
  obtain ⟨j, hj⟩ := List.getElem?_of_mem (lpr_mem.mpr ⟨i, .int x, hv, (by simp : (i, rv C (.int x)).1 = 0 + i), rv_ne (Or.inr (Or.inl ⟨_, rfl⟩)), rfl⟩ : (i, rv C (.int x)) ∈ lpr C 0 ls)
  exact lv_iinc F.1 F.2.1 hd hl hj rfl (st1_len hs).1 rfl (fun A' hl' => kk H A' locs hR (lR_st1 hs hl') hc)
theorem w_iadd (F : FCx C p s m args meth c k) {x y : Int32} (hd : decode (mB k) pc = .ok (.iadd, 1))  (kk : WW p l e R s m args below meth c Q C b1 b2 h (pc + 1) ls (.int (x + y) :: r)) : WW p l e R s m args below meth c Q C b1 b2 h pc ls (.int y :: .int x :: r) :=
  fun H A locs hR hl hc => lv_iadd F.1 F.2.1 hd (kk H A locs hR hl hc)
theorem w_isub (F : FCx C p s m args meth c k) {x y : Int32} (hd : decode (mB k) pc = .ok (.isub, 1))  (kk : WW p l e R s m args below meth c Q C b1 b2 h (pc + 1) ls (.int (x - y) :: r)) : WW p l e R s m args below meth c Q C b1 b2 h pc ls (.int y :: .int x :: r) :=
  fun H A locs hR hl hc => lv_isub F.1 F.2.1 hd (kk H A locs hR hl hc)
theorem w_imul (F : FCx C p s m args meth c k) {x y : Int32} (hd : decode (mB k) pc = .ok (.imul, 1))  (kk : WW p l e R s m args below meth c Q C b1 b2 h (pc + 1) ls (.int (x * y) :: r)) : WW p l e R s m args below meth c Q C b1 b2 h pc ls (.int y :: .int x :: r) :=
  fun H A locs hR hl hc => lv_imul F.1 F.2.1 hd (kk H A locs hR hl hc)
theorem w_iand (F : FCx C p s m args meth c k) {x y : Int32} (hd : decode (mB k) pc = .ok (.iand, 1))  (kk : WW p l e R s m args below meth c Q C b1 b2 h (pc + 1) ls (.int (x &&& y) :: r)) : WW p l e R s m args below meth c Q C b1 b2 h pc ls (.int y :: .int x :: r) :=
  fun H A locs hR hl hc => lv_iand F.1 F.2.1 hd (kk H A locs hR hl hc)
theorem w_ior (F : FCx C p s m args meth c k) {x y : Int32} (hd : decode (mB k) pc = .ok (.ior, 1))  (kk : WW p l e R s m args below meth c Q C b1 b2 h (pc + 1) ls (.int (x ||| y) :: r)) : WW p l e R s m args below meth c Q C b1 b2 h pc ls (.int y :: .int x :: r) :=
  fun H A locs hR hl hc => lv_ior F.1 F.2.1 hd (kk H A locs hR hl hc)
theorem w_ishl (F : FCx C p s m args meth c k) {x y : Int32} (hd : decode (mB k) pc = .ok (.ishl, 1))  (kk : WW p l e R s m args below meth c Q C b1 b2 h (pc + 1) ls (.int (x <<< (y &&& 31)) :: r)) : WW p l e R s m args below meth c Q C b1 b2 h pc ls (.int y :: .int x :: r) :=
  fun H A locs hR hl hc => lv_ishl F.1 F.2.1 hd (kk H A locs hR hl hc)
theorem w_ishr (F : FCx C p s m args meth c k) {x y : Int32} (hd : decode (mB k) pc = .ok (.ishr, 1))  (kk : WW p l e R s m args below meth c Q C b1 b2 h (pc + 1) ls (.int (x >>> (y &&& 31)) :: r)) : WW p l e R s m args below meth c Q C b1 b2 h pc ls (.int y :: .int x :: r) :=
  fun H A locs hR hl hc => lv_ishr F.1 F.2.1 hd (kk H A locs hR hl hc)
theorem w_idiv (F : FCx C p s m args meth c k) {x y : Int32} (hd : decode (mB k) pc = .ok (.idiv, 1)) (hne : ¬ y = 0) (kk : WW p l e R s m args below meth c Q C b1 b2 h (pc + 1) ls (.int (x / y) :: r)) : WW p l e R s m args below meth c Q C b1 b2 h pc ls (.int y :: .int x :: r) :=
  fun H A locs hR hl hc => lv_idiv F.1 F.2.1 hd hne (kk H A locs hR hl hc)
theorem w_irem (F : FCx C p s m args meth c k) {x y : Int32} (hd : decode (mB k) pc = .ok (.irem, 1)) (hne : ¬ y = 0) (kk : WW p l e R s m args below meth c Q C b1 b2 h (pc + 1) ls (.int (x - x / y * y) :: r)) : WW p l e R s m args below meth c Q C b1 b2 h pc ls (.int y :: .int x :: r) :=
  fun H A locs hR hl hc => lv_irem F.1 F.2.1 hd hne (kk H A locs hR hl hc)
theorem w_ladd (F : FCx C p s m args meth c k) {x y : Int64} (hd : decode (mB k) pc = .ok (.ladd, 1))  (kk : WW p l e R s m args below meth c Q C b1 b2 h (pc + 1) ls (.long (x + y) :: r)) : WW p l e R s m args below meth c Q C b1 b2 h pc ls (.long y :: .long x :: r) :=
  fun H A locs hR hl hc => lv_ladd F.1 F.2.1 hd (kk H A locs hR hl hc)
theorem w_land (F : FCx C p s m args meth c k) {x y : Int64} (hd : decode (mB k) pc = .ok (.land, 1))  (kk : WW p l e R s m args below meth c Q C b1 b2 h (pc + 1) ls (.long (x &&& y) :: r)) : WW p l e R s m args below meth c Q C b1 b2 h pc ls (.long y :: .long x :: r) :=
  fun H A locs hR hl hc => lv_land F.1 F.2.1 hd (kk H A locs hR hl hc)
theorem w_lor (F : FCx C p s m args meth c k) {x y : Int64} (hd : decode (mB k) pc = .ok (.lor, 1))  (kk : WW p l e R s m args below meth c Q C b1 b2 h (pc + 1) ls (.long (x ||| y) :: r)) : WW p l e R s m args below meth c Q C b1 b2 h pc ls (.long y :: .long x :: r) :=
  fun H A locs hR hl hc => lv_lor F.1 F.2.1 hd (kk H A locs hR hl hc)
theorem w_lcmp (F : FCx C p s m args meth c k) {x y : Int64} (hd : decode (mB k) pc = .ok (.lcmp, 1))  (kk : WW p l e R s m args below meth c Q C b1 b2 h (pc + 1) ls (.int (lg_cmp x y) :: r)) : WW p l e R s m args below meth c Q C b1 b2 h pc ls (.long y :: .long x :: r) :=
  fun H A locs hR hl hc => W.lcmp F.1 F.2.1 hd (kk H A locs hR hl hc)
theorem w_i2l (F : FCx C p s m args meth c k) {x : Int32} (hd : decode (mB k) pc = .ok (.i2l, 1))  (kk : WW p l e R s m args below meth c Q C b1 b2 h (pc + 1) ls (.long x.toInt64 :: r)) : WW p l e R s m args below meth c Q C b1 b2 h pc ls (.int x :: r) :=
  fun H A locs hR hl hc => lv_i2l F.1 F.2.1 hd rfl (kk H A locs hR hl hc)
theorem w_l2i (F : FCx C p s m args meth c k) {x : Int64} (hd : decode (mB k) pc = .ok (.l2i, 1))  (kk : WW p l e R s m args below meth c Q C b1 b2 h (pc + 1) ls (.int x.toInt32 :: r)) : WW p l e R s m args below meth c Q C b1 b2 h pc ls (.long x :: r) :=
  fun H A locs hR hl hc => lv_l2i F.1 F.2.1 hd rfl (kk H A locs hR hl hc)
theorem w_i2b (F : FCx C p s m args meth c k) {x : Int32} (hd : decode (mB k) pc = .ok (.i2b, 1))  (kk : WW p l e R s m args below meth c Q C b1 b2 h (pc + 1) ls (.int x.toInt8.toInt32 :: r)) : WW p l e R s m args below meth c Q C b1 b2 h pc ls (.int x :: r) :=
  fun H A locs hR hl hc => lv_i2b F.1 F.2.1 hd rfl (kk H A locs hR hl hc)
theorem w_lshl (F : FCx C p s m args meth c k) {x : Int64} {y : Int32} (hd : decode (mB k) pc = .ok (.lshl, 1))  (kk : WW p l e R s m args below meth c Q C b1 b2 h (pc + 1) ls (.long (x <<< (y.toInt64 &&& 63)) :: r)) : WW p l e R s m args below meth c Q C b1 b2 h pc ls (.int y :: .long x :: r) :=
  fun H A locs hR hl hc => lv_lshl F.1 F.2.1 hd rfl (kk H A locs hR hl hc)
theorem w_lshr (F : FCx C p s m args meth c k) {x : Int64} {y : Int32} (hd : decode (mB k) pc = .ok (.lshr, 1))  (kk : WW p l e R s m args below meth c Q C b1 b2 h (pc + 1) ls (.long (x >>> (y.toInt64 &&& 63)) :: r)) : WW p l e R s m args below meth c Q C b1 b2 h pc ls (.int y :: .long x :: r) :=
  fun H A locs hR hl hc => lv_lshr F.1 F.2.1 hd rfl (kk H A locs hR hl hc)
theorem w_pop (F : FCx C p s m args meth c k) {v : Value} (hd : decode (mB k) pc = .ok (.pop, 1)) (hv : v.category = 1) (kk : WW p l e R s m args below meth c Q C b1 b2 h (pc + 1) ls (r)) : WW p l e R s m args below meth c Q C b1 b2 h pc ls (v :: r) :=
  fun H A locs hR hl hc => lv_pop F.1 F.2.1 hd (by rw [rv_cat]; exact hv) (kk H A locs hR hl hc)
theorem w_dup (F : FCx C p s m args meth c k) {v : Value} (hd : decode (mB k) pc = .ok (.dup, 1)) (hv : v.category = 1) (kk : WW p l e R s m args below meth c Q C b1 b2 h (pc + 1) ls (v :: v :: r)) : WW p l e R s m args below meth c Q C b1 b2 h pc ls (v :: r) :=
  fun H A locs hR hl hc => lv_dup F.1 F.2.1 hd (by rw [rv_cat]; exact hv) (kk H A locs hR hl hc)
theorem w_dup_x1 (F : FCx C p s m args meth c k) {v u : Value} (hd : decode (mB k) pc = .ok (.dup_x1, 1)) (hv : v.category = 1) (hu : u.category = 1) (kk : WW p l e R s m args below meth c Q C b1 b2 h (pc + 1) ls (v :: u :: v :: r)) : WW p l e R s m args below meth c Q C b1 b2 h pc ls (v :: u :: r) :=
  fun H A locs hR hl hc => lv_dup_x1 F.1 F.2.1 hd (by rw [rv_cat]; exact hv) (by rw [rv_cat]; exact hu) (kk H A locs hR hl hc)
theorem w_dup2 (F : FCx C p s m args meth c k) {v u : Value} (hd : decode (mB k) pc = .ok (.dup2, 1)) (hv : v.category = 1) (hu : u.category = 1) (kk : WW p l e R s m args below meth c Q C b1 b2 h (pc + 1) ls (v :: u :: v :: u :: r)) : WW p l e R s m args below meth c Q C b1 b2 h pc ls (v :: u :: r) :=
  fun H A locs hR hl hc => lv_dup2_11 F.1 F.2.1 hd (by rw [rv_cat]; exact hv) (by rw [rv_cat]; exact hu) (kk H A locs hR hl hc)
theorem w_if_eq (F : FCx C p s m args meth c k) {off : Int} {x : Int32} (hp : 0 ≤ tgi pc off) (hd : decode (mB k) pc = .ok (.ifCond .eq off, 3)) (kk : WW p l e R s m args below meth c Q C b1 b2 h (if cnd .eq x 0 = true then (tgi pc off).toNat else pc + 3) ls r) : WW p l e R s m args below meth c Q C b1 b2 h pc ls (.int x :: r) := by
  intro H A locs hR hl hc
  have k2 := kk H A locs hR hl hc
  have ht : (pc : Int) + off = ((tgi pc off).toNat : Int) := by rw [Int.toNat_of_nonneg hp]; rfl
  refine lv_if_eq F.1 F.2.1 hd ht (fun q => ?_) (fun q => ?_)
  · rw [if_pos (by simp only [cnd]; first | exact decide_eq_true q | exact decide_eq_true (by first | exact q | simpa using q | omega))] at k2
    exact k2
  · rw [if_neg (by simp only [cnd]; first | exact fun z => q (of_decide_eq_true z) | (intro z; exact absurd (of_decide_eq_true z) (by first | exact q | simpa using q)))] at k2
    exact k2
theorem w_icmp_eq (F : FCx C p s m args meth c k) {off : Int} {x y : Int32} (hp : 0 ≤ tgi pc off) (hd : decode (mB k) pc = .ok (.if_icmp .eq off, 3)) (kk : WW p l e R s m args below meth c Q C b1 b2 h (if cnd .eq x y = true then (tgi pc off).toNat else pc + 3) ls r) : WW p l e R s m args below meth c Q C b1 b2 h pc ls (.int y :: .int x :: r) := by
  intro H A locs hR hl hc
  have k2 := kk H A locs hR hl hc
  have ht : (pc : Int) + off = ((tgi pc off).toNat : Int) := by rw [Int.toNat_of_nonneg hp]; rfl
  refine lv_icmp_eq F.1 F.2.1 hd ht (fun q => ?_) (fun q => ?_)
  · rw [if_pos (by simp only [cnd]; first | exact decide_eq_true q | exact decide_eq_true (by first | exact q | simpa using q | omega))] at k2
    exact k2
  · rw [if_neg (by simp only [cnd]; first | exact fun z => q (of_decide_eq_true z) | (intro z; exact absurd (of_decide_eq_true z) (by first | exact q | simpa using q)))] at k2
    exact k2
theorem w_if_ne (F : FCx C p s m args meth c k) {off : Int} {x : Int32} (hp : 0 ≤ tgi pc off) (hd : decode (mB k) pc = .ok (.ifCond .ne off, 3)) (kk : WW p l e R s m args below meth c Q C b1 b2 h (if cnd .ne x 0 = true then (tgi pc off).toNat else pc + 3) ls r) : WW p l e R s m args below meth c Q C b1 b2 h pc ls (.int x :: r) := by
  intro H A locs hR hl hc
  have k2 := kk H A locs hR hl hc
  have ht : (pc : Int) + off = ((tgi pc off).toNat : Int) := by rw [Int.toNat_of_nonneg hp]; rfl
  refine lv_if_ne F.1 F.2.1 hd ht (fun q => ?_) (fun q => ?_)
  · rw [if_pos (by simp only [cnd]; first | exact decide_eq_true q | exact decide_eq_true (by first | exact q | simpa using q | omega))] at k2
    exact k2
  · rw [if_neg (by simp only [cnd]; first | exact fun z => q (of_decide_eq_true z) | (intro z; exact absurd (of_decide_eq_true z) (by first | exact q | simpa using q)))] at k2
    exact k2
theorem w_icmp_ne (F : FCx C p s m args meth c k) {off : Int} {x y : Int32} (hp : 0 ≤ tgi pc off) (hd : decode (mB k) pc = .ok (.if_icmp .ne off, 3)) (kk : WW p l e R s m args below meth c Q C b1 b2 h (if cnd .ne x y = true then (tgi pc off).toNat else pc + 3) ls r) : WW p l e R s m args below meth c Q C b1 b2 h pc ls (.int y :: .int x :: r) := by
  intro H A locs hR hl hc
  have k2 := kk H A locs hR hl hc
  have ht : (pc : Int) + off = ((tgi pc off).toNat : Int) := by rw [Int.toNat_of_nonneg hp]; rfl
  refine lv_icmp_ne F.1 F.2.1 hd ht (fun q => ?_) (fun q => ?_)
  · rw [if_pos (by simp only [cnd]; first | exact decide_eq_true q | exact decide_eq_true (by first | exact q | simpa using q | omega))] at k2
    exact k2
  · rw [if_neg (by simp only [cnd]; first | exact fun z => q (of_decide_eq_true z) | (intro z; exact absurd (of_decide_eq_true z) (by first | exact q | simpa using q)))] at k2
    exact k2
theorem w_if_lt (F : FCx C p s m args meth c k) {off : Int} {x : Int32} (hp : 0 ≤ tgi pc off) (hd : decode (mB k) pc = .ok (.ifCond .lt off, 3)) (kk : WW p l e R s m args below meth c Q C b1 b2 h (if cnd .lt x 0 = true then (tgi pc off).toNat else pc + 3) ls r) : WW p l e R s m args below meth c Q C b1 b2 h pc ls (.int x :: r) := by
  intro H A locs hR hl hc
  have k2 := kk H A locs hR hl hc
  have ht : (pc : Int) + off = ((tgi pc off).toNat : Int) := by rw [Int.toNat_of_nonneg hp]; rfl
  refine lv_if_lt F.1 F.2.1 hd ht (fun q => ?_) (fun q => ?_)
  · rw [if_pos (by simp only [cnd]; first | exact decide_eq_true q | exact decide_eq_true (by first | exact q | simpa using q | omega))] at k2
    exact k2
  · rw [if_neg (by simp only [cnd]; first | exact fun z => q (of_decide_eq_true z) | (intro z; exact absurd (of_decide_eq_true z) (by first | exact q | simpa using q)))] at k2
    exact k2
theorem w_icmp_lt (F : FCx C p s m args meth c k) {off : Int} {x y : Int32} (hp : 0 ≤ tgi pc off) (hd : decode (mB k) pc = .ok (.if_icmp .lt off, 3)) (kk : WW p l e R s m args below meth c Q C b1 b2 h (if cnd .lt x y = true then (tgi pc off).toNat else pc + 3) ls r) : WW p l e R s m args below meth c Q C b1 b2 h pc ls (.int y :: .int x :: r) := by
  intro H A locs hR hl hc
  have k2 := kk H A locs hR hl hc
  have ht : (pc : Int) + off = ((tgi pc off).toNat : Int) := by rw [Int.toNat_of_nonneg hp]; rfl
  refine lv_icmp_lt F.1 F.2.1 hd ht (fun q => ?_) (fun q => ?_)
  · rw [if_pos (by simp only [cnd]; first | exact decide_eq_true q | exact decide_eq_true (by first | exact q | simpa using q | omega))] at k2
    exact k2
  · rw [if_neg (by simp only [cnd]; first | exact fun z => q (of_decide_eq_true z) | (intro z; exact absurd (of_decide_eq_true z) (by first | exact q | simpa using q)))] at k2
    exact k2
theorem w_if_ge (F : FCx C p s m args meth c k) {off : Int} {x : Int32} (hp : 0 ≤ tgi pc off) (hd : decode (mB k) pc = .ok (.ifCond .ge off, 3)) (kk : WW p l e R s m args below meth c Q C b1 b2 h (if cnd .ge x 0 = true then (tgi pc off).toNat else pc + 3) ls r) : WW p l e R s m args below meth c Q C b1 b2 h pc ls (.int x :: r) := by
  intro H A locs hR hl hc
  have k2 := kk H A locs hR hl hc
  have ht : (pc : Int) + off = ((tgi pc off).toNat : Int) := by rw [Int.toNat_of_nonneg hp]; rfl
  refine lv_if_ge F.1 F.2.1 hd ht (fun q => ?_) (fun q => ?_)
  · rw [if_pos (by simp only [cnd]; first | exact decide_eq_true q | exact decide_eq_true (by first | exact q | simpa using q | omega))] at k2
    exact k2
  · rw [if_neg (by simp only [cnd]; first | exact fun z => q (of_decide_eq_true z) | (intro z; exact absurd (of_decide_eq_true z) (by first | exact q | simpa using q)))] at k2
    exact k2
theorem w_icmp_ge (F : FCx C p s m args meth c k) {off : Int} {x y : Int32} (hp : 0 ≤ tgi pc off) (hd : decode (mB k) pc = .ok (.if_icmp .ge off, 3)) (kk : WW p l e R s m args below meth c Q C b1 b2 h (if cnd .ge x y = true then (tgi pc off).toNat else pc + 3) ls r) : WW p l e R s m args below meth c Q C b1 b2 h pc ls (.int y :: .int x :: r) := by
  intro H A locs hR hl hc
  have k2 := kk H A locs hR hl hc
  have ht : (pc : Int) + off = ((tgi pc off).toNat : Int) := by rw [Int.toNat_of_nonneg hp]; rfl
  refine lv_icmp_ge F.1 F.2.1 hd ht (fun q => ?_) (fun q => ?_)
  · rw [if_pos (by simp only [cnd]; first | exact decide_eq_true q | exact decide_eq_true (by first | exact q | simpa using q | omega))] at k2
    exact k2
  · rw [if_neg (by simp only [cnd]; first | exact fun z => q (of_decide_eq_true z) | (intro z; exact absurd (of_decide_eq_true z) (by first | exact q | simpa using q)))] at k2
    exact k2
theorem w_if_gt (F : FCx C p s m args meth c k) {off : Int} {x : Int32} (hp : 0 ≤ tgi pc off) (hd : decode (mB k) pc = .ok (.ifCond .gt off, 3)) (kk : WW p l e R s m args below meth c Q C b1 b2 h (if cnd .gt x 0 = true then (tgi pc off).toNat else pc + 3) ls r) : WW p l e R s m args below meth c Q C b1 b2 h pc ls (.int x :: r) := by
  intro H A locs hR hl hc
  have k2 := kk H A locs hR hl hc
  have ht : (pc : Int) + off = ((tgi pc off).toNat : Int) := by rw [Int.toNat_of_nonneg hp]; rfl
  refine lv_if_gt F.1 F.2.1 hd ht (fun q => ?_) (fun q => ?_)
  · rw [if_pos (by simp only [cnd]; first | exact decide_eq_true q | exact decide_eq_true (by first | exact q | simpa using q | omega))] at k2
    exact k2
  · rw [if_neg (by simp only [cnd]; first | exact fun z => q (of_decide_eq_true z) | (intro z; exact absurd (of_decide_eq_true z) (by first | exact q | simpa using q)))] at k2
    exact k2
theorem w_icmp_gt (F : FCx C p s m args meth c k) {off : Int} {x y : Int32} (hp : 0 ≤ tgi pc off) (hd : decode (mB k) pc = .ok (.if_icmp .gt off, 3)) (kk : WW p l e R s m args below meth c Q C b1 b2 h (if cnd .gt x y = true then (tgi pc off).toNat else pc + 3) ls r) : WW p l e R s m args below meth c Q C b1 b2 h pc ls (.int y :: .int x :: r) := by
  intro H A locs hR hl hc
  have k2 := kk H A locs hR hl hc
  have ht : (pc : Int) + off = ((tgi pc off).toNat : Int) := by rw [Int.toNat_of_nonneg hp]; rfl
  refine lv_icmp_gt F.1 F.2.1 hd ht (fun q => ?_) (fun q => ?_)
  · rw [if_pos (by simp only [cnd]; first | exact decide_eq_true q | exact decide_eq_true (by first | exact q | simpa using q | omega))] at k2
    exact k2
  · rw [if_neg (by simp only [cnd]; first | exact fun z => q (of_decide_eq_true z) | (intro z; exact absurd (of_decide_eq_true z) (by first | exact q | simpa using q)))] at k2
    exact k2
theorem w_if_le (F : FCx C p s m args meth c k) {off : Int} {x : Int32} (hp : 0 ≤ tgi pc off) (hd : decode (mB k) pc = .ok (.ifCond .le off, 3)) (kk : WW p l e R s m args below meth c Q C b1 b2 h (if cnd .le x 0 = true then (tgi pc off).toNat else pc + 3) ls r) : WW p l e R s m args below meth c Q C b1 b2 h pc ls (.int x :: r) := by
  intro H A locs hR hl hc
  have k2 := kk H A locs hR hl hc
  have ht : (pc : Int) + off = ((tgi pc off).toNat : Int) := by rw [Int.toNat_of_nonneg hp]; rfl
  refine lv_if_le F.1 F.2.1 hd ht (fun q => ?_) (fun q => ?_)
  · rw [if_pos (by simp only [cnd]; first | exact decide_eq_true q | exact decide_eq_true (by first | exact q | simpa using q | omega))] at k2
    exact k2
  · rw [if_neg (by simp only [cnd]; first | exact fun z => q (of_decide_eq_true z) | (intro z; exact absurd (of_decide_eq_true z) (by first | exact q | simpa using q)))] at k2
    exact k2
theorem w_icmp_le (F : FCx C p s m args meth c k) {off : Int} {x y : Int32} (hp : 0 ≤ tgi pc off) (hd : decode (mB k) pc = .ok (.if_icmp .le off, 3)) (kk : WW p l e R s m args below meth c Q C b1 b2 h (if cnd .le x y = true then (tgi pc off).toNat else pc + 3) ls r) : WW p l e R s m args below meth c Q C b1 b2 h pc ls (.int y :: .int x :: r) := by
  intro H A locs hR hl hc
  have k2 := kk H A locs hR hl hc
  have ht : (pc : Int) + off = ((tgi pc off).toNat : Int) := by rw [Int.toNat_of_nonneg hp]; rfl
  refine lv_icmp_le F.1 F.2.1 hd ht (fun q => ?_) (fun q => ?_)
  · rw [if_pos (by simp only [cnd]; first | exact decide_eq_true q | exact decide_eq_true (by first | exact q | simpa using q | omega))] at k2
    exact k2
  · rw [if_neg (by simp only [cnd]; first | exact fun z => q (of_decide_eq_true z) | (intro z; exact absurd (of_decide_eq_true z) (by first | exact q | simpa using q)))] at k2
    exact k2
theorem w_goto (F : FCx C p s m args meth c k) {off : Int} (hp : 0 ≤ tgi pc off) (hd : decode (mB k) pc = .ok (.goto off, 3)) (kk : WW p l e R s m args below meth c Q C b1 b2 h (tgi pc off).toNat ls r) : WW p l e R s m args below meth c Q C b1 b2 h pc ls r :=
  fun H A locs hR hl hc => lv_goto F.1 F.2.1 hd (by rw [Int.toNat_of_nonneg hp]; rfl) (kk H A locs hR hl hc)
theorem w_ifnull (F : FCx C p s m args meth c k) {off : Int} {a : Nat} (hd : decode (mB k) pc = .ok (.ifnull off, 3)) (kk : WW p l e R s m args below meth c Q C b1 b2 h (pc + 3) ls r) : WW p l e R s m args below meth c Q C b1 b2 h pc ls (.ref a :: r) :=
  fun H A locs hR hl hc => lv_ifnull F.1 F.2.1 hd (kk H A locs hR hl hc)
theorem w_ifnullN (F : FCx C p s m args meth c k) {off : Int} (hp : 0 ≤ tgi pc off) (hd : decode (mB k) pc = .ok (.ifnull off, 3)) (kk : WW p l e R s m args below meth c Q C b1 b2 h (tgi pc off).toNat ls r) : WW p l e R s m args below meth c Q C b1 b2 h pc ls (.null :: r) :=
  fun H A locs hR hl hc => lv_ifnullN F.1 F.2.1 hd (by rw [Int.toNat_of_nonneg hp]; rfl) (kk H A locs hR hl hc)
theorem w_ifnonnull (F : FCx C p s m args meth c k) {off : Int} {a : Nat} (hp : 0 ≤ tgi pc off) (hd : decode (mB k) pc = .ok (.ifnonnull off, 3)) (kk : WW p l e R s m args below meth c Q C b1 b2 h (tgi pc off).toNat ls r) : WW p l e R s m args below meth c Q C b1 b2 h pc ls (.ref a :: r) :=
  fun H A locs hR hl hc => lv_ifnonnull F.1 F.2.1 hd (by rw [Int.toNat_of_nonneg hp]; rfl) (kk H A locs hR hl hc)
theorem w_ifnonnullN (F : FCx C p s m args meth c k) {off : Int} (hd : decode (mB k) pc = .ok (.ifnonnull off, 3)) (kk : WW p l e R s m args below meth c Q C b1 b2 h (pc + 3) ls r) : WW p l e R s m args below meth c Q C b1 b2 h pc ls (.null :: r) :=
  fun H A locs hR hl hc => lv_ifnonnullN F.1 F.2.1 hd (kk H A locs hR hl hc)
end
