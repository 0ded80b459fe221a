/-! every instruction of the pure machine is the machine's -/
def tgOK : Instr → Bool
  | .goto t => decide (0 ≤ t)
  | .ifnull t => decide (0 ≤ t)
  | .ifnonnull t => decide (0 ≤ t)
  | .ifCond _ t => decide (0 ≤ t)
  | .if_icmp _ t => decide (0 ≤ t)
  | .if_acmp _ t => decide (0 ≤ t)
  | .tableswitch d _ _ offs => decide (0 ≤ d) && offs.toList.all (fun t => decide (0 ≤ t))
  | .lookupswitch d ps => decide (0 ≤ d) && ps.toList.all (fun q => decide (0 ≤ q.2))
  | .getstatic v => decide (v ≠ 99999)
  | .iconst v => decide (v ≠ 99999)
  | .ldc2_w v => decide (v ≠ 99999)
  | _ => true
set_option maxRecDepth 20000 in
theorem tg_all : ptl.all (fun t => t.all (fun q => tgOK q.2.1)) = true := by decide +kernel
theorem Int32.ofInt_toInt_self (x : Int32) : Int32.ofInt x.toInt = x := by simp
section
variable {p : Program} {l : Launch} {e : Env} {R : Room} {s : State} {m : MethodId} {args : Array Value} {below : List Frame} {meth : Method} {c : Code} {Q : State → Prop}
variable {C : cx} {k b1 b2 pc : Nat} {h : pheap} {ls st : List Value}
theorem aoA_moved {t : FieldType} {u U : State} {A B : Array Value} (hvm : u.vm.Alike U.vm) (h : (Cond.arrayOver (.array t)).before A u = true) : (Cond.arrayOver (.array t)).before B U = true := by
  obtain ⟨comp, c, k, h1, h2, h3, h4, h5⟩ := arrayOverA_spec h
  obtain ⟨k', hk', he⟩ := hvm.2.2 _ _ h3
  have hi : (U.vm.classes.findIdx? fun (x : Class) => match x.kind with | .array component _ => component == comp | _ => false) = some c := by
    have h7 := (va_idx_bare u.vm comp).trans h2
    first
      | (rw [hvm.bare_eq] at h7; exact (va_idx_bare U.vm comp).symm.trans h7)
      | (rw [← hvm.bare_eq] at h7; exact (va_idx_bare U.vm comp).symm.trans h7)
  have hkind : k'.kind = .array comp (.array t) := by rw [he]; exact h4
  have f1 : U.vm.findClass (FieldType.array t).toString = some comp := by rw [hvm.findClass]; exact h1
  have f2 : U.vm.findClass ("[" ++ (FieldType.array t).toString) = some c := by rw [hvm.findClass]; exact h5
  unfold Cond.before Cond.holds
  simp only [Cond.value]
  rw [f1, Option.bind_some]
  refine (congrArg (fun o : Option Nat => (o.bind (fun c => (U.vm.classes[c]?).map fun (k : Class) => match k.kind with | .array _ ty => decide (ty = FieldType.array t) && decide (U.vm.findClass ("[" ++ (FieldType.array t).toString) = some c) | _ => false) == some true)) hi).trans ?_
  simp [hk', hkind, f2]
theorem outer_get (c : ClassId) (N h0 : Nat) : ∀ i : Nat, i ≤ N → ∀ j : Nat, j < i → (Jvm.Free.Multi.outerC c N h0 i).slots[j]? = some (.ref (h0 + 1 + j))
  | 0, _, j, h => absurd h (Nat.not_lt_zero j)
  | i + 1, hi, j, h => by
    show ((Jvm.Free.Multi.outerC c N h0 i).setSlot i (.ref (h0 + 1 + i))).slots[j]? = _
    rw [set_get _ _ (by rw [(Jvm.Free.Multi.outerC_facts c N h0 i).2.2]; omega)]
    by_cases hj : j = i
    · rw [if_pos hj, hj]
    · rw [if_neg hj]
      exact outer_get c N h0 i (by omega) j (by omega)
theorem mna_link : Cond.classLink (cn 10) 15 ("[" ++ (FieldType.array .byte).toString) ∈ lw_use := bpos (n := 266) (by decide +kernel)
theorem mna_over : Cond.arrayOver (.array .byte) ∈ lw_use := bpos (n := 267) (by decide +kernel)
theorem w_mna (hC : CX C) (F : FCx C p s m args meth c k) {i n : Nat} {x y : Int32} {r : List Value} (hk : mO k = 10) (hn : n = 2) (hi15 : i = 15) (hx : 0 < x) (hy : 0 < y) (hx2 : x.toNatClampNeg ≤ 1000) (hy2 : y.toNatClampNeg ≤ 1000) (hb1 : b1 ≤ h.1) (hb2 : b2 ≤ h.2.1) (hr1 : h.1 + 1 + x.toNatClampNeg - b1 ≤ R.cells) (hr2 : h.2.1 + (x.toNatClampNeg + x.toNatClampNeg * y.toNatClampNeg) - b2 ≤ R.slots) (hd : decode (mB k) pc = .ok (.multianewarray i n, 4)) (kk : WW p l e R s m args below meth c Q C b1 b2 (hmul h x.toNatClampNeg y.toNatClampNeg) (pc + 4) ls (.ref h.1 :: r)) : WW p l e R s m args below meth c Q C b1 b2 h pc ls (.int y :: .int x :: r) := by
  subst hn hi15
  intro H A locs hR hl hc T hT X
  have hlink := F.2.2.2.2.1 _ mna_link
  rw [← hk] at hlink
  have hxn : ¬ x < 0 := fun z => by rw [Int32.lt_iff_toInt_lt] at z hx; omega
  have hyn : ¬ y < 0 := fun z => by rw [Int32.lt_iff_toInt_lt] at z hy; omega
  have hcb : componentBytes .byte ≤ 8 := by decide
  obtain ⟨vm1, cA, comp, hW1, fA, fC, hO, hI, X', step⟩ := X.multianewarray2F F.1 F.2.2.2.1 hlink (F.2.2.2.2.1 _ mna_over) (F.2.2.2.2.1 _ acB) (g := F0 m pc A (.int y :: .int x :: r.map (rv C))) rfl (by rw [F.2.1]; exact hd) rfl hxn hyn (by omega) (Nat.le_trans (Nat.mul_le_mul hy2 hcb) (by decide)) (by omega) rfl rfl (by omega) (by omega)
  generalize hN : x.toNatClampNeg = N at *
  generalize hM : y.toNatClampNeg = M at *
  generalize hF : Jvm.Free.Multi.fill (T.setVm vm1) cA comp N M (defaultValue .byte) N = FF at X' step
  have hTh : (T.setVm vm1).heap = H := hT
  obtain ⟨f1, f2, -, -⟩ := Jvm.Free.Multi.fill_facts (T.setVm vm1) cA comp N M (defaultValue .byte) N
  rw [hF, hTh] at f1 f2
  have hold : ∀ q : Nat, q < H.size → FF.heap[q]? = H[q]? := fun q hq => by
    have := Jvm.Free.Multi.fill_old (T.setVm vm1) cA comp N M (defaultValue .byte) (a := q) (by rw [hTh]; exact hq) N
    rw [hF, hTh] at this
    exact this
  have hrow : ∀ j : Nat, j < N → FF.heap[H.size + 1 + j]? = some (Jvm.Free.Multi.innerC comp M (defaultValue .byte)) := fun j hj => by
    have := Jvm.Free.Multi.fill_inner (T.setVm vm1) cA comp N M (defaultValue .byte) N j hj
    rw [hF, hTh] at this
    exact this
  have h5 := hR.1.1
  have htop := hR.top
  have hRp : Rp C (hmul h N M) FF.heap := by
    refine ⟨⟨by show 5 ≤ h.1 + 1 + N; omega, hR.1.2.mul (by omega) (by omega)⟩, by rw [f1, hR.2.1]; show _ = _ + (h.1 + 1 + N - 5); omega, fun q hq => ?_, fun a ha => ?_⟩
    · rw [hold q (by rw [hR.2.1]; omega)]
      exact hR.2.2.1 q hq
    · have ha : a < h.1 + 1 + N := ha
      by_cases h1 : a = h.1
      · subst h1
        show cR C h.1 (if h.1 = h.1 then (27, N, fun j => .ref (h.1 + 1 + j)) else _) _
        rw [if_pos rfl, htop, f2]
        refine ⟨_, rfl, Or.inr ⟨(by show 20 ≤ 27; decide), (by show 27 ≤ 27; decide), State.isArrayOf_alike F.2.2.2.2.2.1.symm (hO N H.size N).1, (hO N H.size N).2, ⟨?_, ?_⟩, fun j hj => ?_, fun j hj => rfl, fun _ => ⟨(Jvm.Free.Multi.outerC_facts cA N H.size N).2.2, ?_, (Jvm.Free.Multi.outerC_facts cA N H.size N).2.1⟩⟩⟩
        · exact Nat.le_of_eq (Jvm.Free.Multi.outerC_facts cA N H.size N).2.2.symm
        · rw [(Jvm.Free.Multi.outerC_facts cA N H.size N).2.2]; rfl
        · rw [outer_get cA N H.size N (Nat.le_refl _) j hj]
          have hsz := hR.2.1
          have e9 : ad C (h.1 + 1 + j) = H.size + 1 + j := by rw [ad_new (by omega), hsz]; omega
          show _ = some (Value.ref (ad C (h.1 + 1 + j)))
          rw [e9]
        · show va_RA C.1 (Jvm.Free.Multi.outerC cA N H.size N).cls (.array .byte)
          rw [(Jvm.Free.Multi.outerC_facts cA N H.size N).1]
          exact va_RA.moved (u := s) F.2.2.2.2.2.1.symm (ra_of (fun _ z => by cases z) fA)
      · by_cases h2 : a < h.1
        · show cR C a (if a = h.1 then _ else if h.1 < a ∧ a ≤ h.1 + N then _ else h.2.2 a) _
          rw [if_neg h1, if_neg (by omega), hold _ (ad_lt hC hR h2)]
          exact hR.2.2.2 a h2
        · show cR C a (if a = h.1 then _ else if h.1 < a ∧ a ≤ h.1 + N then (22, M, fun _ => .int 0) else h.2.2 a) _
          rw [if_neg h1, if_pos (by omega)]
          have ea : ad C a = H.size + 1 + (a - h.1 - 1) := by
            have hsz := hR.2.1
            rw [ad_new (by omega), hsz]
            omega
          rw [ea, hrow _ (by omega)]
          refine ⟨_, rfl, Or.inr ⟨(by show 20 ≤ 22; decide), (by show 22 ≤ 27; decide), State.isArrayOf_alike F.2.2.2.2.2.1.symm (hI M _).1, (hI M _).2, ⟨by simp [Jvm.Free.Multi.innerC], by simp only [Jvm.Free.Multi.innerC, Array.size_replicate]; rfl⟩, fun j hj => ?_, fun j hj => by show fits .byte (.int 0) = true; decide, fun _ => ⟨by simp [Jvm.Free.Multi.innerC], va_RA.moved (u := s) F.2.2.2.2.2.1.symm (ra_of (fun _ z => by cases z) fC), rfl⟩⟩⟩
          have hj : j < M := hj
          simp [Jvm.Free.Multi.innerC, hj, rv, defaultValue]
  have e1 : h.1 + 1 + N - b1 = h.1 - b1 + 1 + N := by omega
  have e2 : h.2.1 + (N + N * M) - b2 = h.2.1 - b2 + N + N * M := by omega
  have hk2 : W p l e R s m args below meth c FF.heap locs (h.1 + 1 + N - b1) (h.2.1 + (N + N * M) - b2) Q (F0 m (pc + 4) A (Value.ref (ad C h.1) :: r.map (rv C))) := kk FF.heap A locs hRp hl hc
  rw [e1, e2, htop] at hk2
  obtain ⟨t, a1, b1'⟩ := hk2 FF rfl X'
  refine ⟨t, step t ?_, b1'⟩
  rw [hT]
  exact a1
theorem off_map (pc : Nat) (d x : Int) : ∀ l : List (Int × Int), Op.lookupswitch.offset (l.map (fun q => (q.1, tgi pc q.2))) (tgi pc d) x = tgi pc (Op.lookupswitch.offset l d x)
  | [] => rfl
  | (a, o) :: r => by
    show (if a = x then tgi pc o else Op.lookupswitch.offset (r.map _) (tgi pc d) x) = tgi pc (if a = x then o else Op.lookupswitch.offset r d x)
    rw [off_map pc d x r]
    split <;> rfl
theorem off_nn (pc : Nat) (d x : Int) (hd : 0 ≤ tgi pc d) : ∀ l : List (Int × Int), (∀ q ∈ l, 0 ≤ tgi pc q.2) → 0 ≤ tgi pc (Op.lookupswitch.offset l d x)
  | [], _ => hd
  | (a, o) :: r, h => by
    show 0 ≤ tgi pc (if a = x then o else Op.lookupswitch.offset r d x)
    split
    · exact h _ List.mem_cons_self
    · exact off_nn pc d x hd r (fun q hq => h q (List.mem_cons_of_mem _ hq))
theorem len1 {raw : Instr} {len n : Nat} (h : ilen raw = 0 ∨ ilen raw = len) (hn : ilen raw = n) (h0 : n ≠ 0) : len = n := by omega
set_option maxHeartbeats 4000000 in
theorem xs_ok (hC : CX C) (F : FCx C p s m args meth c k) {raw i : Instr} {len pc' : Nat} {h' : pheap} {ls' st' : List Value} (hd : decode (mB k) pc = .ok (raw, len)) (hlen : ilen raw = 0 ∨ ilen raw = len) (hr : rslv (mO k) pc raw = i) (hpf : pfc k i = true) (htg : tgOK i = true)
    (hmn : ∀ a b, raw = .multianewarray a b → a = 15) (hx : xs h (pc + len) ls st i = some (h', pc', ls', st')) (hb1 : b1 ≤ h.1) (hb2 : b2 ≤ h.2.1) (hr1 : h'.1 - b1 ≤ R.cells) (hr2 : h'.2.1 - b2 ≤ R.slots) (kk : WW p l e R s m args below meth c Q C b1 b2 h' pc' ls' st') : WW p l e R s m args below meth c Q C b1 b2 h pc ls st := by
  cases raw
  case iconst n =>
    cases len1 (n := 1) hlen rfl (by decide); subst hr; cases hx
    exact w_iconst F hd kk
  case bipush n =>
    cases len1 (n := 2) hlen rfl (by decide); subst hr; cases hx
    rw [Int32.ofInt_toInt_self] at kk
    exact w_bipush F hd kk
  case sipush n =>
    cases len1 (n := 3) hlen rfl (by decide); subst hr; cases hx
    rw [Int32.ofInt_toInt_self] at kk
    exact w_sipush F hd kk
  case ldc n =>
    cases len1 (n := 2) hlen rfl (by decide); subst hr; cases hx
    exact w_ldc F (ct_ok rfl (of_decide_eq_true htg)) hd kk
  case ldc_w n =>
    cases len1 (n := 3) hlen rfl (by decide); subst hr; cases hx
    exact w_ldcw F (ct_ok rfl (of_decide_eq_true htg)) hd kk
  case lconst n =>
    cases len1 (n := 1) hlen rfl (by decide); subst hr; cases hx
    exact w_lconst F hd kk
  case ldc2_w n =>
    cases len1 (n := 3) hlen rfl (by decide); subst hr; cases hx
    exact w_ldc2 F (cl_ok rfl (of_decide_eq_true htg)) hd kk
  case aconst_null =>
    cases len1 (n := 1) hlen rfl (by decide); subst hr; cases hx
    exact w_null F hd kk
  case iload_n n =>
    cases len1 (n := 1) hlen rfl (by decide); subst hr
    dsimp only [rslv, xs] at hx
    split at hx
    · rename_i x hv; cases hx; exact w_iload_n F hv hd kk
    · cases hx
  case iload n =>
    cases len1 (n := 2) hlen rfl (by decide); subst hr
    dsimp only [rslv, xs] at hx
    split at hx
    · rename_i x hv; cases hx; exact w_iload F hv hd kk
    · cases hx
  case lload_n n =>
    cases len1 (n := 1) hlen rfl (by decide); subst hr
    dsimp only [rslv, xs] at hx
    split at hx
    · rename_i x hv; cases hx; exact w_lload_n F hv hd kk
    · cases hx
  case lload n =>
    cases len1 (n := 2) hlen rfl (by decide); subst hr
    dsimp only [rslv, xs] at hx
    split at hx
    · rename_i x hv; cases hx; exact w_lload F hv hd kk
    · cases hx
  case aload_n n =>
    cases len1 (n := 1) hlen rfl (by decide); subst hr
    dsimp only [rslv, xs] at hx
    split at hx
    · rename_i x hv; cases hx; exact w_aload_n F hv hd kk
    · rename_i hv; cases hx; exact w_aload_nN F hv hd kk
    · cases hx
  case aload n =>
    cases len1 (n := 2) hlen rfl (by decide); subst hr
    dsimp only [rslv, xs] at hx
    split at hx
    · rename_i x hv; cases hx; exact w_aload F hv hd kk
    · rename_i hv; cases hx; exact w_aloadN F hv hd kk
    · cases hx
  case istore_n n =>
    cases len1 (n := 1) hlen rfl (by decide); subst hr
    dsimp only [rslv, xs] at hx
    split at hx
    · obtain ⟨l2, hs, he⟩ := Option.map_eq_some_iff.mp hx
      cases he; exact w_istore_n F hs hd kk
    · cases hx
  case istore n =>
    cases len1 (n := 2) hlen rfl (by decide); subst hr
    dsimp only [rslv, xs] at hx
    split at hx
    · obtain ⟨l2, hs, he⟩ := Option.map_eq_some_iff.mp hx
      cases he; exact w_istore F hs hd kk
    · cases hx
  case lstore_n n =>
    cases len1 (n := 1) hlen rfl (by decide); subst hr
    dsimp only [rslv, xs] at hx
    split at hx
    · obtain ⟨l2, hs, he⟩ := Option.map_eq_some_iff.mp hx
      cases he; exact w_lstore_n F hs hd kk
    · cases hx
  case lstore n =>
    cases len1 (n := 2) hlen rfl (by decide); subst hr
    dsimp only [rslv, xs] at hx
    split at hx
    · obtain ⟨l2, hs, he⟩ := Option.map_eq_some_iff.mp hx
      cases he; exact w_lstore F hs hd kk
    · cases hx
  case astore_n n =>
    cases len1 (n := 1) hlen rfl (by decide); subst hr
    dsimp only [rslv, xs] at hx
    split at hx
    · obtain ⟨l2, hs, he⟩ := Option.map_eq_some_iff.mp hx
      cases he; exact w_astore_n F hs hd kk
    · obtain ⟨l2, hs, he⟩ := Option.map_eq_some_iff.mp hx
      cases he; exact w_astore_nN F hs hd kk
    · cases hx
  case astore n =>
    cases len1 (n := 2) hlen rfl (by decide); subst hr
    dsimp only [rslv, xs] at hx
    split at hx
    · obtain ⟨l2, hs, he⟩ := Option.map_eq_some_iff.mp hx
      cases he; exact w_astore F hs hd kk
    · obtain ⟨l2, hs, he⟩ := Option.map_eq_some_iff.mp hx
      cases he; exact w_astoreN F hs hd kk
    · cases hx
  case iinc n cc =>
    cases len1 (n := 3) hlen rfl (by decide); subst hr
    dsimp only [rslv, xs] at hx
    split at hx
    · rename_i x hv
      obtain ⟨l2, hs, he⟩ := Option.map_eq_some_iff.mp hx
      cases he; exact w_iinc F hv hs hd kk
    · cases hx
  case iadd =>
    cases len1 (n := 1) hlen rfl (by decide); subst hr
    dsimp only [rslv, xs] at hx
    split at hx
    · dsimp only [xi, Option.map] at hx; cases hx; exact w_iadd F hd kk
    · dsimp only [xl, Option.map] at hx; cases hx
    · cases hx
  case isub =>
    cases len1 (n := 1) hlen rfl (by decide); subst hr
    dsimp only [rslv, xs] at hx
    split at hx
    · dsimp only [xi, Option.map] at hx; cases hx; exact w_isub F hd kk
    · dsimp only [xl, Option.map] at hx; cases hx
    · cases hx
  case imul =>
    cases len1 (n := 1) hlen rfl (by decide); subst hr
    dsimp only [rslv, xs] at hx
    split at hx
    · dsimp only [xi, Option.map] at hx; cases hx; exact w_imul F hd kk
    · dsimp only [xl, Option.map] at hx; cases hx
    · cases hx
  case iand =>
    cases len1 (n := 1) hlen rfl (by decide); subst hr
    dsimp only [rslv, xs] at hx
    split at hx
    · dsimp only [xi, Option.map] at hx; cases hx; exact w_iand F hd kk
    · dsimp only [xl, Option.map] at hx; cases hx
    · cases hx
  case ior =>
    cases len1 (n := 1) hlen rfl (by decide); subst hr
    dsimp only [rslv, xs] at hx
    split at hx
    · dsimp only [xi, Option.map] at hx; cases hx; exact w_ior F hd kk
    · dsimp only [xl, Option.map] at hx; cases hx
    · cases hx
  case ishl =>
    cases len1 (n := 1) hlen rfl (by decide); subst hr
    dsimp only [rslv, xs] at hx
    split at hx
    · dsimp only [xi, Option.map] at hx; cases hx; exact w_ishl F hd kk
    · dsimp only [xl, Option.map] at hx; cases hx
    · cases hx
  case ishr =>
    cases len1 (n := 1) hlen rfl (by decide); subst hr
    dsimp only [rslv, xs] at hx
    split at hx
    · dsimp only [xi, Option.map] at hx; cases hx; exact w_ishr F hd kk
    · dsimp only [xl, Option.map] at hx; cases hx
    · cases hx
  case idiv =>
    cases len1 (n := 1) hlen rfl (by decide); subst hr
    dsimp only [rslv, xs] at hx
    split at hx
    · dsimp only [xi] at hx
      split at hx
      · cases hx
      · rename_i hne; cases hx; exact w_idiv F hd hne kk
    · dsimp only [xl, Option.map] at hx; cases hx
    · cases hx
  case irem =>
    cases len1 (n := 1) hlen rfl (by decide); subst hr
    dsimp only [rslv, xs] at hx
    split at hx
    · dsimp only [xi] at hx
      split at hx
      · cases hx
      · rename_i hne; cases hx; exact w_irem F hd hne kk
    · dsimp only [xl, Option.map] at hx; cases hx
    · cases hx
  case ladd =>
    cases len1 (n := 1) hlen rfl (by decide); subst hr
    dsimp only [rslv, xs] at hx
    split at hx
    · dsimp only [xi, Option.map] at hx; cases hx
    · dsimp only [xl, Option.map] at hx; cases hx; exact w_ladd F hd kk
    · cases hx
  case land =>
    cases len1 (n := 1) hlen rfl (by decide); subst hr
    dsimp only [rslv, xs] at hx
    split at hx
    · dsimp only [xi, Option.map] at hx; cases hx
    · dsimp only [xl, Option.map] at hx; cases hx; exact w_land F hd kk
    · cases hx
  case lor =>
    cases len1 (n := 1) hlen rfl (by decide); subst hr
    dsimp only [rslv, xs] at hx
    split at hx
    · dsimp only [xi, Option.map] at hx; cases hx
    · dsimp only [xl, Option.map] at hx; cases hx; exact w_lor F hd kk
    · cases hx
  case lcmp =>
    cases len1 (n := 1) hlen rfl (by decide); subst hr
    dsimp only [rslv, xs] at hx
    split at hx
    · dsimp only [xi, Option.map] at hx; cases hx
    · dsimp only [xl, Option.map] at hx; cases hx; exact w_lcmp F hd kk
    · cases hx
  case i2l =>
    cases len1 (n := 1) hlen rfl (by decide); subst hr
    dsimp only [rslv, xs] at hx
    split at hx
    · cases hx; exact w_i2l F hd kk
    · cases hx
  case l2i =>
    cases len1 (n := 1) hlen rfl (by decide); subst hr
    dsimp only [rslv, xs] at hx
    split at hx
    · cases hx; exact w_l2i F hd kk
    · cases hx
  case i2b =>
    cases len1 (n := 1) hlen rfl (by decide); subst hr
    dsimp only [rslv, xs] at hx
    split at hx
    · cases hx; exact w_i2b F hd kk
    · cases hx
  case lshl =>
    cases len1 (n := 1) hlen rfl (by decide); subst hr
    dsimp only [rslv, xs] at hx
    split at hx
    · cases hx; exact w_lshl F hd kk
    · cases hx
  case lshr =>
    cases len1 (n := 1) hlen rfl (by decide); subst hr
    dsimp only [rslv, xs] at hx
    split at hx
    · cases hx; exact w_lshr F hd kk
    · cases hx
  case pop =>
    cases len1 (n := 1) hlen rfl (by decide); subst hr
    dsimp only [rslv, xs] at hx
    split at hx
    · split at hx
      · rename_i hv; cases hx; exact w_pop F hd hv kk
      · cases hx
    · cases hx
  case dup =>
    cases len1 (n := 1) hlen rfl (by decide); subst hr
    dsimp only [rslv, xs] at hx
    split at hx
    · split at hx
      · rename_i hv; cases hx; exact w_dup F hd hv kk
      · cases hx
    · cases hx
  case dup_x1 =>
    cases len1 (n := 1) hlen rfl (by decide); subst hr
    dsimp only [rslv, xs] at hx
    split at hx
    · split at hx
      · rename_i hv; cases hx; exact w_dup_x1 F hd hv.1 hv.2 kk
      · cases hx
    · cases hx
  case dup2 =>
    cases len1 (n := 1) hlen rfl (by decide); subst hr
    dsimp only [rslv, xs] at hx
    split at hx
    · split at hx
      · rename_i hv; cases hx; exact w_dup2 F hd hv.1 hv.2 kk
      · cases hx
    · cases hx
  case getstatic n =>
    cases len1 (n := 3) hlen rfl (by decide); subst hr; cases hx
    exact w_gets hC F rfl (of_decide_eq_true htg) hd kk
  case getfield n =>
    cases len1 (n := 3) hlen rfl (by decide); subst hr
    dsimp only [rslv, xs] at hx
    split at hx
    · split at hx
      · rename_i hv; cases hx; exact w_getf hC F rfl hv.1 hv.2 hd kk
      · cases hx
    · cases hx
  case putfield n =>
    cases len1 (n := 3) hlen rfl (by decide); subst hr
    dsimp only [rslv, xs] at hx
    split at hx
    · split at hx
      · rename_i hv; cases hx; exact w_putf hC F rfl hv.1 hv.2.1 hv.2.2.1 hv.2.2.2 hpf hd kk
      · cases hx
    · cases hx
  case arraylength =>
    cases len1 (n := 1) hlen rfl (by decide); subst hr
    dsimp only [rslv, xs] at hx
    split at hx
    · split at hx
      · rename_i hv; cases hx; exact w_alen F hv.1 hv.2 hd kk
      · cases hx
    · cases hx
  case iaload =>
    cases len1 (n := 1) hlen rfl (by decide); subst hr
    dsimp only [rslv, xs] at hx
    split at hx
    · split at hx
      · rename_i hv; cases hx; exact w_iald F hv.1 hv.2.1 hv.2.2 hd kk
      · cases hx
    · cases hx
  case laload =>
    cases len1 (n := 1) hlen rfl (by decide); subst hr
    dsimp only [rslv, xs] at hx
    split at hx
    · split at hx
      · rename_i hv; cases hx; exact w_lald F hv.1 hv.2.1 hv.2.2 hd kk
      · cases hx
    · cases hx
  case aaload =>
    cases len1 (n := 1) hlen rfl (by decide); subst hr
    dsimp only [rslv, xs] at hx
    split at hx
    · split at hx
      · rename_i hv; cases hx; exact w_aald F hv.1 hv.2.1 hv.2.2 hd kk
      · cases hx
    · cases hx
  case baload =>
    cases len1 (n := 1) hlen rfl (by decide); subst hr
    dsimp only [rslv, xs] at hx
    split at hx
    · split at hx
      · rename_i hv; cases hx
        rcases hv.2.1 with z | z
        · exact w_bald F hv.1 z hv.2.2 hd kk
        · exact w_zald F hv.1 z hv.2.2 hd kk
      · cases hx
    · cases hx
  case iastore =>
    cases len1 (n := 1) hlen rfl (by decide); subst hr
    dsimp only [rslv, xs] at hx
    split at hx
    · split at hx
      · rename_i hv; cases hx; exact w_iast hC F hv.1 hv.2.1 hv.2.2.1 hv.2.2.2 hd kk
      · cases hx
    · cases hx
  case lastore =>
    cases len1 (n := 1) hlen rfl (by decide); subst hr
    dsimp only [rslv, xs] at hx
    split at hx
    · split at hx
      · rename_i hv; cases hx; exact w_last hC F hv.1 hv.2.1 hv.2.2.1 hv.2.2.2 hd kk
      · cases hx
    · cases hx
  case bastore =>
    cases len1 (n := 1) hlen rfl (by decide); subst hr
    dsimp only [rslv, xs] at hx
    split at hx
    · split at hx
      · rename_i hv
        split at hx
        · rename_i z; cases hx; exact w_bast hC F hv.1 hv.2.1 z hv.2.2 hd kk
        · split at hx
          · rename_i z; cases hx; exact w_zast hC F hv.1 hv.2.1 z hv.2.2 hd kk
          · cases hx
      · cases hx
    · cases hx
  case aastore =>
    cases len1 (n := 1) hlen rfl (by decide); subst hr
    dsimp only [rslv, xs] at hx
    split at hx
    · rename_i v j a r
      split at hx
      · rename_i hv; cases hx
        cases v with
        | ref b => exact w_aast hC F hv.1 hv.2.1 hv.2.2.1 hv.2.2.2 hd kk
        | null => exact w_aastN hC F hv.1 hv.2.1 hv.2.2.1 hv.2.2.2 hd kk
        | _ => exact absurd hv.2.2.1 (by simp [aasOK])
      · cases hx
    · cases hx
  case new n =>
    cases len1 (n := 3) hlen rfl (by decide); subst hr
    dsimp only [rslv, xs] at hx
    split at hx
    · rename_i hv; cases hx; exact w_new hC F rfl hv hb1 hb2 hr1 hr2 hd kk
    · cases hx
  case newarray t =>
    cases len1 (n := 2) hlen rfl (by decide); subst hr
    dsimp only [rslv, xs] at hx
    split at hx
    · split at hx
      · rename_i hv; cases hx; exact w_newa hC F hv.1 hv.2.1 hv.2.2 hb1 hb2 hr1 hr2 hd kk
      · cases hx
    · cases hx
  case anewarray n =>
    cases len1 (n := 3) hlen rfl (by decide); subst hr
    dsimp only [rslv, xs] at hx
    split at hx
    · split at hx
      · rename_i hv; cases hx; exact w_anew hC F rfl hv.2.2.1 hv.2.2.2 hv.1 hv.2.1 hb1 hb2 hr1 hr2 hd kk
      · cases hx
    · cases hx
  case multianewarray i n =>
    cases len1 (n := 4) hlen rfl (by decide); subst hr
    dsimp only [rslv, xs] at hx
    have hp2 : n = 2 ∧ mO k = 10 := by simpa [rslv, pfc] using hpf
    split at hx
    · split at hx
      · rename_i hv; cases hx; exact w_mna hC F hp2.2 hp2.1 (hmn _ _ rfl) hv.1 hv.2.1 hv.2.2.1 hv.2.2.2 hb1 hb2 hr1 hr2 hd kk
      · cases hx
    · cases hx
  case checkcast n =>
    cases len1 (n := 3) hlen rfl (by decide); subst hr
    dsimp only [rslv, xs] at hx
    split at hx
    · cases hx; exact w_castN F hd kk
    · split at hx
      · rename_i hv; cases hx; exact w_cast hC F rfl hv.1 hv.2.1 hv.2.2 hd kk
      · cases hx
    · cases hx
  case goto t =>
    cases len1 (n := 3) hlen rfl (by decide); subst hr; cases hx
    exact w_goto F (of_decide_eq_true htg) hd kk
  case ifnull t =>
    cases len1 (n := 3) hlen rfl (by decide); subst hr
    dsimp only [rslv, xs] at hx
    split at hx
    · cases hx; exact w_ifnullN F (of_decide_eq_true htg) hd kk
    · cases hx; exact w_ifnull F hd kk
    · cases hx
  case ifnonnull t =>
    cases len1 (n := 3) hlen rfl (by decide); subst hr
    dsimp only [rslv, xs] at hx
    split at hx
    · cases hx; exact w_ifnonnullN F hd kk
    · cases hx; exact w_ifnonnull F (of_decide_eq_true htg) hd kk
    · cases hx
  case ifCond cd t =>
    cases len1 (n := 3) hlen rfl (by decide); subst hr
    dsimp only [rslv, xs] at hx
    split at hx
    · cases hx
      cases cd
      · exact w_if_eq F (of_decide_eq_true htg) hd kk
      · exact w_if_ne F (of_decide_eq_true htg) hd kk
      · exact w_if_lt F (of_decide_eq_true htg) hd kk
      · exact w_if_ge F (of_decide_eq_true htg) hd kk
      · exact w_if_gt F (of_decide_eq_true htg) hd kk
      · exact w_if_le F (of_decide_eq_true htg) hd kk
    · cases hx
  case if_icmp cd t =>
    cases len1 (n := 3) hlen rfl (by decide); subst hr
    dsimp only [rslv, xs] at hx
    split at hx
    · cases hx
      cases cd
      · exact w_icmp_eq F (of_decide_eq_true htg) hd kk
      · exact w_icmp_ne F (of_decide_eq_true htg) hd kk
      · exact w_icmp_lt F (of_decide_eq_true htg) hd kk
      · exact w_icmp_ge F (of_decide_eq_true htg) hd kk
      · exact w_icmp_gt F (of_decide_eq_true htg) hd kk
      · exact w_icmp_le F (of_decide_eq_true htg) hd kk
    · cases hx
  case if_acmp cd t =>
    cases len1 (n := 3) hlen rfl (by decide); subst hr
    dsimp only [rslv, xs] at hx
    split at hx
    · split at hx
      · rename_i y x hv hu
        split at hx
        · rename_i ho; cases hx
          exact w_acmp hC F hv hu ho (of_decide_eq_true htg) hd kk
        · cases hx
      · cases hx
    · cases hx
  case tableswitch d lo hi offs =>
    subst hr
    dsimp only [rslv, xs] at hx
    have ht2 : 0 ≤ tgi pc d ∧ ∀ o ∈ offs.toList, 0 ≤ tgi pc o := by
      simp only [rslv, tgOK, Bool.and_eq_true, decide_eq_true_eq, List.all_eq_true] at htg
      exact ⟨htg.1, fun o ho => htg.2 _ (by simpa using ⟨o, by simpa using ho, rfl⟩)⟩
    split at hx
    · split at hx
      · rename_i hv; cases hx; exact w_tabOut F hv ht2.1 hd kk
      · rename_i hv
        obtain ⟨o1, hs, he⟩ := Option.map_eq_some_iff.mp hx
        cases he
        rw [Array.getElem?_map] at hs
        obtain ⟨o2, hs2, he2⟩ := Option.map_eq_some_iff.mp hs
        subst he2
        exact w_tabIn F hv hs2 (ht2.2 _ (by simpa using Array.mem_of_getElem? hs2)) hd kk
    · cases hx
  case lookupswitch d ps =>
    subst hr
    dsimp only [rslv, xs] at hx
    have ht2 : 0 ≤ tgi pc d ∧ ∀ q ∈ ps.toList, 0 ≤ tgi pc q.2 := by
      simp only [rslv, tgOK, Bool.and_eq_true, decide_eq_true_eq, List.all_eq_true] at htg
      exact ⟨htg.1, fun o ho => htg.2 (o.1, tgi pc o.2) (by simpa using ⟨o.1, o.2, by simpa using ho, rfl, rfl⟩)⟩
    have hp2 : (ps.toList.zip (ps.toList.drop 1)).all (fun (a, next) => a.1 < next.1) = true := by
      have h1 : ((ps.map (fun q => (q.1, tgi pc q.2))).toList.zip ((ps.map (fun q => (q.1, tgi pc q.2))).toList.drop 1)).all (fun (a, next) => a.1 < next.1) = true := hpf
      rw [Array.toList_map, ← List.map_drop, List.zip_map, List.all_map] at h1
      exact h1
    split at hx
    · cases hx
      rw [Array.toList_map, off_map] at kk
      exact w_look F hp2 (off_nn pc d _ ht2.1 _ ht2.2) hd kk
    · cases hx
  all_goals
    subst hr
    dsimp only [rslv, xs] at hx
    split at hx <;> first | (dsimp only [xi, xl, Option.map] at hx; cases hx; done) | (cases hx; done)
end
