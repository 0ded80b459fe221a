/-! THE CLAIM OUT OF ONE WALK OF THE LAW'S BODY. Your part is whole_start (and what it stands on); all else here is the same for every law, but numbers. -/
def R_law : String := "RemoteDesksLaw"
def lw_P (b : Addr) (xs : List Int32) (args : Array Value) (s : State) : Prop := args = #[.ref b] ∧ s.IntsAt b xs ∧ xs.length ≤ 3072 ∧ (Jvm.Cond.and given_1 narrow_1).before args s = true
def lw_Q (_ : Array Value) (s : State) (o : Outcome) (t : State) : Prop := o = .returned (some (.int 1)) ∧ Framed s o t [] 600000 7302250
def lw_Z (below : List Frame) (a : Array Value) (s : State) : State → Prop := fun t => ∃ o, t.status = .running ∧ Ended t below o ∧ lw_Q a s o t
/-- the law's own end, with 1 on the stack, nothing written that was there before, its room as the claim has it -/
theorem lw_ret {p : Program} {l : Launch} {e : Env} {s : State} {m : MethodId} {below : List Frame} {meth : Method} {c : Code} {b : Nat} (hx : p.tables.exec = Jvm.exec) (hb : c.code = code) (hr : meth.sig.returnType = ret) (hlocks : meth.locks = false) {pc : Nat} {H : Heap} {ls : Array Slot} (hdg : decode code pc = .ok (.ireturn, 1)) : W p l e room_1 s m #[Value.ref b] below meth c H [] 600000 7302250 (lw_Z below #[Value.ref b] s) (F0 m pc ls [.int 1]) := by
  intro T hT X
  obtain ⟨fs, hret, hrun, hended, hW, hframe⟩ := X.leave (v := some (.int 1)) (hlocks := hlocks) (fun h => by rw [hr] at h; cases h)
  have hmeth' : T.vm.method? m = some meth := X.method'
  refine ⟨T.setFrames fs, ?_, .returned (some (.int 1)), hrun, hended, rfl, ⟨_, rfl⟩, hW, hframe⟩
  jvm_step X.here [X.here.top, hx, hb, hdg, hmeth', hr, ret, narrow_b1]
  (try refine ⟨rfl, ?_⟩); (try refine ⟨rfl, ?_⟩)
  first | (intro acts; rw [hret _ acts rfl rfl rfl]) | rw [hret _ _ rfl rfl rfl]
  exact Steps.refl _
/-- what holds at the law's entry: the machine, the code, the tables' words (any of lw_tbl by 'hts w (by decide +kernel)'), the script of L ints xs at the cell b, what the Statement gives of the start (any of its parts by flat_of_before) -/
def lw_At (p : Program) (s : State) (m : MethodId) (meth : Method) (c : Code) (b L : Nat) (xs : Nat → Int32) : Prop :=
  p.tables.exec = Jvm.exec ∧ c.code = code ∧ meth.sig.returnType = ret ∧ c.maxLocals = 4 ∧ s.vm.findClass R_law = some m.cls ∧ (∀ w ∈ lw_tbl, w.before #[Value.ref b] s = true) ∧ va_X b L xs s s.heap ∧ b < s.heap.size ∧ meth.locks = false ∧ (Jvm.Cond.and given_1 narrow_1).before #[Value.ref b] s = true

/-! the law's start, over the pure machine -/
def rsv (j : Nat) : Int64 := [28817553043583589, 28518, 125779785511524, 32481164609020773, 6909556, 1819242087, 110429873532005, 27707072068280686, 1952807028].getD j 0
def h0 (xs : Nat → Int32) (L : Nat) : pheap := (5, 0, fun a => match a with
  | 0 => (20, L, fun j => .int (xs j))
  | 1 => (24, 0, fun _ => .null)
  | 2 => (21, 9, fun j => .long (rsv j))
  | 3 => (22, 0, fun _ => .int 0)
  | 4 => (22, 1, fun _ => .int 2)
  | _ => (0, 0, fun _ => .null))
theorem mB_law : mB 287 = code := if_pos (by decide +kernel)
theorem mL_law : mL 287 = 4 := by decide +kernel
theorem mO_law : cn (mO 287) = R_law := by decide +kernel
theorem mC_law : (mY 287).cls = cn (mO 287) := by decide +kernel
theorem ls1 : Cond.laysStatic "java/util/ArrayList" "DEFAULTCAPACITY_EMPTY_ELEMENTDATA" "[Ljava/lang/Object;" ∈ lw_tbl := List.mem_of_getElem? (i := 247) (by decide +kernel)
theorem ls2 : Cond.laysStatic "RemoteDesks$BookReader" "RESERVED" "[J" ∈ lw_tbl := List.mem_of_getElem? (i := 443) (by decide +kernel)
theorem ls3 : Cond.laysStatic "RemoteDesks" "NO_BYTES" "[B" ∈ lw_tbl := List.mem_of_getElem? (i := 947) (by decide +kernel)
theorem ls4 : Cond.laysStatic "RemoteDesks" "AGED_BYTES" "[B" ∈ lw_tbl := List.mem_of_getElem? (i := 1245) (by decide +kernel)
theorem old_arr {C : cx} {a t n : Nat} {f : Nat → Value} {ty : FieldType} {A : Nat → Prop} {H : Heap} (hT : va_T ty (ad C a) n f A C.1 H) (h20 : 20 ≤ t) (h27 : t ≤ 27) (ha : a < 5) (hty : agT t = ty) {g : Nat → Value} (hg : ∀ j, j < n → f j = rv C (g j)) (hft : ∀ j, j < n → fits ty (f j) = true) : cR C a (t, n, g) H[ad C a]? := by
  obtain ⟨cell, h1, h2, h3, h4, h5, h6, -⟩ := hT
  refine ⟨cell, h1, Or.inr ⟨h20, h27, by rw [hty]; exact h2, h3, ⟨h4, h5⟩, fun j hj => ?_, fun j hj => ?_, fun z => absurd z (by omega)⟩⟩
  · rw [h6 j hj, hg j hj]
  · show fits (agT t) (rv C (g j)) = true
    rw [hty, ← hg j hj]
    exact hft j hj
set_option maxHeartbeats 4000000 in
set_option maxRecDepth 100000 in
theorem law_of {p : Program} {e : Env} {s : State} {m : MethodId} {below : List Frame} {meth : Method} {c : Code} (l : Launch) {b L n d : Nat} {xs : Nat → Int32} {hE : pheap} (C0 : lw_At p s m meth c b L xs) (hd1 : d ≤ 900) (hxe : xe n d (h0 xs L) 287 0 (entL 4 [.ref 0]) [] = some (some (.int 1), hE)) (hE1 : hE.1 ≤ 600005) (hE2 : hE.2.1 ≤ 7302250) :
    W p l e room_1 s m #[Value.ref b] below meth c s.heap [] 0 0 (lw_Z below #[Value.ref b] s) (entryFrame m ([Value.ref b] : List Value).toArray 4) := by
  obtain ⟨hx, hb, hr, hml, hown, hts, hX, hbl, hlocks, hgv⟩ := id C0
  have htu : ∀ w ∈ lw_use, w.before #[Value.ref b] s = true := fun w hw => hts w (List.mem_filter.mp hw).1
  have hs := flat_of_before _ hgv
  have hA : ∀ a : Nat, a < s.heap.size → ¬ (fun q : Nat => s.heap.size ≤ q) a := fun a h => Nat.not_le.mpr h
  have hcl : ∀ ci : Nat, ∃ q : ClassId × (Nat → Nat), ∀ r : vw_C, vwCl[ci]? = some r → u_Kn s r.1 r.2.1 r.2.2 q.1 q.2 := by
    intro ci
    by_cases hc : ci < 14
    · obtain ⟨q, hq⟩ := vw_some hc
      obtain ⟨cC, iS, hk⟩ := u_known (n := clN ci) htu (vw_in _ _ hq) (by rw [(vwn_ _ _ hq).2.1]; exact htu _ (insC ci hc))
      exact ⟨(cC, iS), fun r hr => by cases hq.symm.trans hr; exact hk⟩
    · exact ⟨(0, fun _ => 0), fun r hr => absurd (vw_lt hr) hc⟩
  obtain ⟨t1, ht1, hT1⟩ := va_Tof (N := 0) (f := fun _ => .null) (A := fun q : Nat => s.heap.size ≤ q) (by decide) (hs (Cond.arrayOf (.static "java/util/ArrayList" "DEFAULTCAPACITY_EMPTY_ELEMENTDATA" "[Ljava/lang/Object;") (.object "java/lang/Object")) (by decide +kernel)) (va_eqt (hs (Cond.eq (.length (.static "java/util/ArrayList" "DEFAULTCAPACITY_EMPTY_ELEMENTDATA" "[Ljava/lang/Object;")) (.int 0)) (by decide +kernel))) (fun j h => absurd h (Nat.not_lt_zero j)) hA
  obtain ⟨t2, ht2, hT2⟩ := va_Tof (N := 9) (f := fun j => .long (rsv j)) (A := fun q : Nat => s.heap.size ≤ q) (by decide) (hs (Cond.arrayOf (.static "RemoteDesks$BookReader" "RESERVED" "[J") .long) (by decide +kernel)) (va_eqt (hs (Cond.eq (.length (.static "RemoteDesks$BookReader" "RESERVED" "[J")) (.int 9)) (by decide +kernel))) (fun j h => by
    match j, h with
    | 0, _ => exact va_eqtl (hs (Cond.eq (.elem (.static "RemoteDesks$BookReader" "RESERVED" "[J") (.int 0)) (.long 28817553043583589)) (by decide +kernel))
    | 1, _ => exact va_eqtl (hs (Cond.eq (.elem (.static "RemoteDesks$BookReader" "RESERVED" "[J") (.int 1)) (.long 28518)) (by decide +kernel))
    | 2, _ => exact va_eqtl (hs (Cond.eq (.elem (.static "RemoteDesks$BookReader" "RESERVED" "[J") (.int 2)) (.long 125779785511524)) (by decide +kernel))
    | 3, _ => exact va_eqtl (hs (Cond.eq (.elem (.static "RemoteDesks$BookReader" "RESERVED" "[J") (.int 3)) (.long 32481164609020773)) (by decide +kernel))
    | 4, _ => exact va_eqtl (hs (Cond.eq (.elem (.static "RemoteDesks$BookReader" "RESERVED" "[J") (.int 4)) (.long 6909556)) (by decide +kernel))
    | 5, _ => exact va_eqtl (hs (Cond.eq (.elem (.static "RemoteDesks$BookReader" "RESERVED" "[J") (.int 5)) (.long 1819242087)) (by decide +kernel))
    | 6, _ => exact va_eqtl (hs (Cond.eq (.elem (.static "RemoteDesks$BookReader" "RESERVED" "[J") (.int 6)) (.long 110429873532005)) (by decide +kernel))
    | 7, _ => exact va_eqtl (hs (Cond.eq (.elem (.static "RemoteDesks$BookReader" "RESERVED" "[J") (.int 7)) (.long 27707072068280686)) (by decide +kernel))
    | 8, _ => exact va_eqtl (hs (Cond.eq (.elem (.static "RemoteDesks$BookReader" "RESERVED" "[J") (.int 8)) (.long 1952807028)) (by decide +kernel))
    | j + 9, h => omega) hA
  obtain ⟨t3, ht3, hT3⟩ := va_Tof (N := 0) (f := fun _ => .int 0) (A := fun q : Nat => s.heap.size ≤ q) (by decide) (hs (Cond.arrayOf (.static "RemoteDesks" "NO_BYTES" "[B") .byte) (by decide +kernel)) (va_eqt (hs (Cond.eq (.length (.static "RemoteDesks" "NO_BYTES" "[B")) (.int 0)) (by decide +kernel))) (fun j h => absurd h (Nat.not_lt_zero j)) hA
  obtain ⟨t4, ht4, hT4⟩ := va_Tof (N := 1) (f := fun _ => .int 2) (A := fun q : Nat => s.heap.size ≤ q) (by decide) (hs (Cond.arrayOf (.static "RemoteDesks" "AGED_BYTES" "[B") .byte) (by decide +kernel)) (va_eqt (hs (Cond.eq (.length (.static "RemoteDesks" "AGED_BYTES" "[B")) (.int 1)) (by decide +kernel))) (fun j h => by
    match j, h with
    | 0, _ => exact va_eqt (hs (Cond.eq (.elem (.static "RemoteDesks" "AGED_BYTES" "[B") (.int 0)) (.int 2)) (by decide +kernel))
    | j + 1, h => omega) hA
  have hlt : ∀ {ty : FieldType} {t N : Nat} {f : Nat → Value}, va_T ty t N f (fun q : Nat => s.heap.size ≤ q) s s.heap → t < s.heap.size := fun h => by
    obtain ⟨cell, h1, -⟩ := h
    exact (Array.getElem?_eq_some_iff.mp h1).1
  let C : cx := (s, fun ci => (Classical.choose (hcl ci)).1, fun ci => (Classical.choose (hcl ci)).2, s.heap.size, fun k => match k with | 0 => b | 1 => t1 | 2 => t2 | 3 => t3 | _ => t4)
  have hC : CX C := by
    refine ⟨fun ci q hq => Classical.choose_spec (hcl ci) q hq, rfl, fun k hk => ?_, fun k hk0 hk => ?_⟩
    · match k, hk with
      | 0, _ => exact hbl
      | 1, _ => exact hlt hT1
      | 2, _ => exact hlt hT2
      | 3, _ => exact hlt hT3
      | 4, _ => exact hlt hT4
      | k + 5, h => omega
    · match k, hk0, hk with
      | 1, _, _ => exact va_Zof (hts _ ls1) (htu _ (bpos (n := 138) (by decide +kernel))) ht1 hA
      | 2, _, _ => exact va_Zof (hts _ ls2) (htu _ (bpos (n := 142) (by decide +kernel))) ht2 hA
      | 3, _, _ => exact va_Zof (hts _ ls3) (htu _ (bpos (n := 134) (by decide +kernel))) ht3 hA
      | 4, _, _ => exact va_Zof (hts _ ls4) (htu _ (bpos (n := 134) (by decide +kernel))) ht4 hA
      | 0, h, _ => omega
      | k + 5, _, h => omega
  have hR : Rp C (h0 xs L) s.heap := by
    refine ⟨⟨Nat.le_refl 5, fun a z1 z2 => absurd (show a < 5 from z2) (by omega)⟩, rfl, fun q _ => rfl, fun a ha => ?_⟩
    have ha : a < 5 := ha
    match a, ha with
    | 0, _ =>
      obtain ⟨scr, g1, g2, g3, g4, g5⟩ := hX
      exact ⟨scr, g1, Or.inr ⟨(by show 20 ≤ 20; decide), (by show 20 ≤ 27; decide), g2, g3, ⟨Nat.le_of_eq g4.symm, by rw [g4]; rfl⟩, fun j hj => g5 j hj, fun j hj => rfl, fun z => absurd z (by decide)⟩⟩
    | 1, _ => exact old_arr (C := C) (a := 1) (t := 24) hT1 (by decide) (by decide) (by decide) rfl (fun j h => absurd h (Nat.not_lt_zero j)) (fun j h => absurd h (Nat.not_lt_zero j))
    | 2, _ => exact old_arr (C := C) (a := 2) (t := 21) hT2 (by decide) (by decide) (by decide) rfl (fun j h => rfl) (fun j h => rfl)
    | 3, _ => exact old_arr (C := C) (a := 3) (t := 22) hT3 (by decide) (by decide) (by decide) rfl (fun j h => absurd h (Nat.not_lt_zero j)) (fun j h => absurd h (Nat.not_lt_zero j))
    | 4, _ => exact old_arr (C := C) (a := 4) (t := 22) hT4 (by decide) (by decide) (by decide) rfl (fun j h => rfl) (fun j h => by decide)
    | a + 5, h => omega
  have F : FCx C p s m #[Value.ref b] meth c 287 := ⟨hx, hb.trans mB_law.symm, hml.trans mL_law.symm, by rw [mO_law]; exact hown, htu, Vm.Alike.refl _, Or.inl rfl, mC_law, State.WarmedH.refl s⟩
  have hmono := xe_mono _ _ _ _ _ _ _ _ _ hxe
  have key := frm_all (l := l) hC (va_Mi.of (hs (Cond.isRef (.mirror "[Ljava/lang/Object;")) (by decide +kernel))) hts n d (h0 xs L) 287 0 (entL 4 [.ref 0]) [] (some (.int 1)) hE hxe p e room_1 s m #[Value.ref b] below meth c (lw_Z below #[Value.ref b] s) 5 0 F (Nat.le_refl 5) (Nat.le_refl 0) (by rw [mL_law]; rfl) (Nat.le_trans (Nat.add_le_add_right hd1 4) (by decide)) (Nat.le_trans (Nat.mul_le_mul_left 60 (Nat.add_le_add_right hd1 4)) (by decide)) (by show hE.1 - 5 ≤ 600000; omega) (by show hE.2.1 - 0 ≤ 7302250; omega) (by
    intro pc i ls hdc hri H A locs hR2 hl2 hc2
    rw [mB_law] at hdc
    cases i
    case ireturn =>
      exact va_forget hc2 (W.widen (k := 600000) (n := 7302250) (by omega) (by omega) (lw_ret hx hb hr hlocks hdc))
    all_goals exact absurd hri (by simp [retI]))
  have key2 := key s.heap _ [] hR (lR_entry (C := C) (vs := [.ref 0]) (n := 4) (by decide)) (fun q hq => by cases hq)
  rw [lg_entry_eq]
  exact key2
