/-! calls: a method's contract is the pure machine's run of it -/
def frC (C : cx) : Addr → Prop := fun q => C.2.2.2.1 ≤ q
def pcC (C : cx) (h : pheap) (as : List Value) : Array Value → State → Prop := fun v U => v = (as.map (rv C)).toArray ∧ Rp C h U.heap ∧ C.1.WarmedH U.vm
def qcC (C : cx) (r : Option Value) (hE : pheap) : Array Value → State → Outcome → State → Prop := fun _ _ o t => o = .returned (r.map (rv C)) ∧ Rp C hE t.heap
def wsC (j : Nat) : List Cond := .code (mY j) (mB j) (mL j) (mR j) :: lw_good
def rmC (d : Nat) (h hE : pheap) : Room := { frames := d + 4, cells := hE.1 - h.1, slots := hE.2.1 - h.2.1, locals := 60 * (d + 4) }
def MM (l : Launch) (C : cx) (d j : Nat) (h hE : pheap) (as : List Value) (r : Option Value) : Prop :=
  Met l (mY j) (wsC j) (rmC d h hE) (pcC C h as) (qcC C r hE) (hE.1 - h.1) (hE.2.1 - h.2.1) (frC C)
theorem pcC_blind (C : cx) (h : pheap) (as : List Value) : FrameBlind (pcC C h as) := fun a U g mk q => ⟨q.1, q.2.1, q.2.2⟩
theorem mOK_spec {k : Nat} (hk : k < 287) : Cond.code (mY k) (mB k) (mL k) (mR k) ∈ lw_use ∧ Cond.initialized (mY k).cls ∈ lw_use ∧ (mY k).cls = cn (mO k) ∧ ((mY k).cls ≠ "java/lang/invoke/MethodHandle" ∧ (mY k).cls ≠ "java/lang/invoke/VarHandle") ∧ (parseMethodDescriptor (mY k).desc).map (fun d => d.parameters.length) = some (mPar k) ∧ plainName (mY k).cls = true ∧ mL k ≤ 30 ∧
    (mKind k = 0 → Cond.static (mY k) ∈ lw_use) ∧ (mKind k = 1 → Cond.instanceMethod (mY k) ∈ lw_use ∧ (mY k).name = "<init>" ∧ mR k = none) ∧ (mKind k = 2 → Cond.instanceMethod (mY k) ∈ lw_use ∧ Cond.selects (mY k).cls (mY k) (mY k) ∈ lw_use ∧ (mY k).name ≠ "<init>") := by
  have h := mf_all k hk
  unfold mOK at h
  have hK : mKind k = (mfT.getD k (9, 0, 0, 0, 0)).1 := rfl
  have hP : mPar k = (mfT.getD k (9, 0, 0, 0, 0)).2.2.2.2 := rfl
  generalize mfT.getD k (9, 0, 0, 0, 0) = q at h hK hP
  obtain ⟨kd, pk, ps, pi, n⟩ := q
  dsimp only at h hK hP
  rw [hK, hP]
  simp only [Bool.and_eq_true, decide_eq_true_eq] at h
  obtain ⟨h1, h2, h3, h4, h5, h6, h7, h8, h9⟩ := h
  have hcode : Cond.code (mY k) (mB k) (mL k) (mR k) ∈ lw_use := by
    have hne : mC k ≠ 99999 := by
      intro z
      have hz : lw_tbl[99999]? = none := by decide +kernel
      rw [z, hz] at h1
      cases h1
    split at h1
    · rename_i y b ml r he
      simp only [Bool.and_eq_true, decide_eq_true_eq] at h1
      obtain ⟨g1, g2, g3⟩ := h1
      have hB : mB k = b := by unfold mB; rw [if_neg hne, he]
      rw [hB, ← g1, ← g2, ← g3]
      exact bpos he
    · cases h1
  refine ⟨hcode, bpos h2, h3, ⟨h4, h5⟩, h6, h7, h8, ?_, ?_, ?_⟩
  · rintro rfl
    exact bpos (of_decide_eq_true h9)
  · rintro rfl
    simp only [Bool.and_eq_true, decide_eq_true_eq] at h9
    exact ⟨bpos h9.1, h9.2.1, h9.2.2⟩
  · rintro rfl
    simp only [Bool.and_eq_true, decide_eq_true_eq] at h9
    exact ⟨bpos h9.1, bpos h9.2.1, h9.2.2⟩
set_option maxRecDepth 20000 in
theorem st_nm0 : (List.range 287).all (fun j => decide (mKind j ≠ 0) || decide ((mY j).name ≠ "<init>")) = true := by decide +kernel
theorem st_nm {j : Nat} (hj : j < 287) (hk : mKind j = 0) : (mY j).name ≠ "<init>" := by
  have h := List.all_eq_true.mp st_nm0 j (List.mem_range.mpr hj)
  simpa [hk] using h
theorem in_nm {j : Nat} (hj : j < 287) : inNm j = mY j := by
  unfold inNm
  split <;> first | omega | rfl
theorem good_in (j : Nat) (hj : j < 287) : GoodIn lw_use (wsC j) := by
  intro w hw
  rcases List.mem_cons.mp hw with rfl | hw
  · exact ⟨(mOK_spec hj).1, Or.inl rfl⟩
  · obtain ⟨h1, h2⟩ := List.mem_filter.mp hw
    exact ⟨use_of h1 (by unfold useW; rw [h2]; rfl), good_of_word h2⟩
/-- words that are not kept by the kit's own rule are kept one by one -/
theorem nk_warm {u s : State} {A B : Array Value} (hW : u.WarmedH s.vm) {w : Cond} (hn : nkW w = true) (h : w.before A u = true) : w.before B s = true := by
  cases w <;> try (simp [nkW] at hn; done)
  case castable C T => exact va_Nw.use rfl (va_Nw.warmC hW (va_Nw.of rfl h))
  case fieldLinkNest a i b n d h2 => exact va_Nw.use rfl (va_Nw.warmF hW (va_Nw.of rfl h))
  case methodLinkNest a i b n => exact va_Nw.use rfl (va_Nw.warmM hW (va_Nw.of rfl h))
  case declares x => exact va_Nw.use rfl (va_Nw.warmD hW (va_Nw.of rfl h))
  case arrayOver t =>
    cases t <;> try (simp [nkW] at hn; done)
    · exact va_AO.use (va_AO.moved hW.alike (va_AO.of h))
    · exact aoA_moved hW.alike h
section
variable {p : Program} {l : Launch} {e : Env} {R : Room} {s : State} {m : MethodId} {args : Array Value} {below : List Frame} {meth : Method} {c : Code} {Q : State → Prop}
variable {C : cx} {k b1 b2 pc : Nat} {h : pheap} {ls st : List Value}
theorem ww_ret {H : Heap} {A : Array Slot} {locs : List Loc} {h' : pheap} {r : Option Value} {rest stR : List Value} (hl : lR C ls A) (hc : ∀ q ∈ locs, C.2.2.2.1 ≤ q.base) (hb1 : b1 ≤ h.1) (hb2 : b2 ≤ h.2.1) (hm : h.1 ≤ h'.1 ∧ h.2.1 ≤ h'.2.1)
    (hrun : CallRun p l e R s m args below meth c H locs (h.1 - b1) (h.2.1 - b2) (h'.1 - h.1) (h'.2.1 - h.2.1) (F0 m pc A stR) (rest.map (rv C)) (qcC C r h' #[]) (frC C))
    (kk : WW p l e R s m args below meth c Q C b1 b2 h' (pc + 3) ls (r.toList ++ rest)) : W p l e R s m args below meth c H locs (h.1 - b1) (h.2.1 - b2) Q (F0 m pc A stR) := by
  intro T hT X
  obtain ⟨v, st0, t, T', L, h0, X', hL, e1, ⟨hv, hRp⟩, stp⟩ := hrun T hT X
  have hv2 : v = r.map (rv C) := by cases hv; rfl
  subst hv2
  have e2 : h.1 - b1 + (h'.1 - h.1) = h'.1 - b1 := by omega
  have e3 : h.2.1 - b2 + (h'.2.1 - h.2.1) = h'.2.1 - b2 := by omega
  rw [e2, e3] at X'
  obtain ⟨t2, a1, b1'⟩ := kk T'.heap A (locs ++ L) (by rw [e1]; exact hRp) hl (fun q hq => by
    rcases List.mem_append.mp hq with hq | hq
    · exact hc q hq
    · exact hL q hq) T' rfl X'
  refine ⟨t2, stp t2 ?_, b1'⟩
  have e4 : (r.map (rv C)).toList ++ rest.map (rv C) = (r.toList ++ rest).map (rv C) := by cases r <;> simp
  show Steps p.tables e below (T'.setTop (F0 m (pc + 3) A ((r.map (rv C)).toList ++ rest.map (rv C)))) t2
  rw [e4]
  exact a1
theorem rv_catS (C : cx) (st : List Value) : (((st.map (rv C)).map fun v => v.category).sum) = catS st := by
  unfold catS
  rw [List.map_map]
  congr 1
  exact List.map_congr_left fun v _ => rv_cat C v
theorem cfix (F : FCx C p s m args meth c k) : CallFix p m c (mB k) (mL k) s args lw_use (cn (mO k)) := ⟨F.1, F.2.1, F.2.2.1, F.2.2.2.1, F.2.2.2.2.1⟩
theorem rm_fit {d d' j : Nat} {h hE : pheap} (hd : d' + 5 ≤ R.frames) (hlo : 60 * (d' + 5) ≤ R.locals) (hm : mL j ≤ 30) : (rmC d' h hE).frames + 1 ≤ R.frames ∧ 8 + (mL j + 11) + (rmC d' h hE).locals ≤ R.locals := by
  refine ⟨by show d' + 4 + 1 ≤ R.frames; omega, ?_⟩
  show 8 + (mL j + 11) + 60 * (d' + 4) ≤ R.locals
  omega
theorem w_callS (hC : CX C) (F : FCx C p s m args meth c k) {i j d' : Nat} {as rest : List Value} {r : Option Value} {h' : pheap} (hj : j < 287) (hv : lk2 mtT (mO k) i 99999 = j) (hkd : mKind j = 0) (has : as.length = mPar j) (hM : MM l C d' j h h' as r) (hm : h.1 ≤ h'.1 ∧ h.2.1 ≤ h'.2.1) (hls : ls.length = mL k) (hcat : catS rest ≤ 8)
    (hb1 : b1 ≤ h.1) (hb2 : b2 ≤ h.2.1) (hR1 : d' + 5 ≤ R.frames) (hR2 : 60 * (d' + 5) ≤ R.locals) (hR3 : h'.1 - b1 ≤ R.cells) (hR4 : h'.2.1 - b2 ≤ R.slots) (hd : decode (mB k) pc = .ok (.invokestatic i, 3))
    (kk : WW p l e R s m args below meth c Q C b1 b2 h' (pc + 3) ls (r.toList ++ rest)) : WW p l e R s m args below meth c Q C b1 b2 h pc ls (as.reverse ++ rest) := by
  intro H A locs hR hl hc
  obtain ⟨w1, w2, w3, w4, w5, w6, w7, w8, w9, w10⟩ := mOK_spec hj
  have hnm : inNm j = mY j := in_nm hj
  have hlink : Cond.methodLink (cn (mO k)) i (mY j) ∈ lw_use := by
    rcases mt_ok hv (by omega) with z | z
    · rw [hnm] at z; exact z
    · exact absurd (hnm ▸ z.2) (st_nm hj hkd)
  refine ww_ret hl hc hb1 hb2 hm ?_ kk
  rw [List.map_append, List.map_reverse]
  exact W.runS (As := as.map (rv C)) (cfix F) hM ⟨callB_of (mPar j) F.2.2.2.2.1 (good_in j hj) rfl rfl rfl (F.2.2.2.2.1 _ w2) (F.2.2.2.2.1 _ hlink) ⟨w4.1, w4.2, w5⟩ (rm_fit (d := 0) hR1 hR2 w7), F.2.2.2.2.1 _ (w8 hkd)⟩ ⟨pcC_blind C h as, fun U hU hW => ⟨rfl, by rw [hU]; exact hR, State.WarmedH.trans F.2.2.2.2.2.2.2.2 hW⟩⟩ rfl (by simpa using has) (by show A.size = _; rw [hl.1]; exact hls) rfl (by show 2 * 0 + _ ≤ 8; rw [rv_catS]; omega) hd ⟨by omega, by omega⟩
theorem w_callV (hC : CX C) (F : FCx C p s m args meth c k) {i j d' b : Nat} {as rest : List Value} {r : Option Value} {h' : pheap} (hj : j < 287) (hv : lk2 mtT (mO k) i 99999 = j) (hkd : mKind j = 2) (has : as.length = mPar j) (hb : b < h.1) (ht : (h.2.2 b).1 = mO j) (hM : MM l C d' j h h' (.ref b :: as) r) (hm : h.1 ≤ h'.1 ∧ h.2.1 ≤ h'.2.1) (hls : ls.length = mL k) (hcat : catS rest ≤ 8)
    (hb1 : b1 ≤ h.1) (hb2 : b2 ≤ h.2.1) (hR1 : d' + 5 ≤ R.frames) (hR2 : 60 * (d' + 5) ≤ R.locals) (hR3 : h'.1 - b1 ≤ R.cells) (hR4 : h'.2.1 - b2 ≤ R.slots) (hd : decode (mB k) pc = .ok (.invokevirtual i, 3)) (h14 : mO j < 14)
    (kk : WW p l e R s m args below meth c Q C b1 b2 h' (pc + 3) ls (r.toList ++ rest)) : WW p l e R s m args below meth c Q C b1 b2 h pc ls (as.reverse ++ .ref b :: rest) := by
  intro H A locs hR hl hc
  obtain ⟨w1, w2, w3, w4, w5, w6, w7, w8, w9, w10⟩ := mOK_spec hj
  have hnm : inNm j = mY j := in_nm hj
  obtain ⟨v1, v2, v3⟩ := w10 hkd
  have hlink : Cond.methodLink (cn (mO k)) i (mY j) ∈ lw_use := by
    rcases mt_ok hv (by omega) with z | z
    · rw [hnm] at z; exact z
    · exact absurd (hnm ▸ z.2) v3
  obtain ⟨cell, e1, e2, e3, -⟩ := cR_obj (hR.2.2.2 b hb) (by rw [ht]; exact h14)
  obtain ⟨q, hq⟩ := vw_some h14
  have hcls := (u_Kn_moved F.2.2.2.2.2.1 (hC.1 _ _ hq)).2
  rw [(vwn_ _ _ hq).2.1, ← w3] at hcls
  refine ww_ret hl hc hb1 hb2 hm ?_ kk
  rw [List.map_append, List.map_reverse, List.map_cons]
  exact W.runV (As := as.map (rv C)) (b := ad C b) (cfix F) hM ⟨callB_of (mPar j) F.2.2.2.2.1 (good_in j hj) rfl rfl rfl (F.2.2.2.2.1 _ w2) (F.2.2.2.2.1 _ hlink) ⟨w4.1, w4.2, w5⟩ (rm_fit (d := 0) hR1 hR2 w7), F.2.2.2.2.1 _ v1, F.2.2.2.2.1 _ v2⟩ ⟨pcC_blind C h _, ⟨cell, e1, by rw [e3]; rfl, by rw [e2, ht]; exact hcls.1⟩, fun U hU hW => ⟨rfl, by rw [hU]; exact hR, State.WarmedH.trans F.2.2.2.2.2.2.2.2 hW⟩⟩ rfl (by simpa using has) (by show A.size = _; rw [hl.1]; exact hls) rfl (by show 2 * 0 + _ ≤ 8; rw [rv_catS]; omega) hd ⟨by omega, by omega⟩
theorem w_callI (hC : CX C) (F : FCx C p s m args meth c k) {i j d' b : Nat} {as rest : List Value} {r : Option Value} {h' : pheap} (hj : j < 287) (hv : lk2 mtT (mO k) i 99999 = j) (hkd : mKind j = 1) (has : as.length = mPar j) (hM : MM l C d' j h h' (.ref b :: as) r) (hm : h.1 ≤ h'.1 ∧ h.2.1 ≤ h'.2.1) (hls : ls.length = mL k) (hcat : catS rest ≤ 8)
    (hb1 : b1 ≤ h.1) (hb2 : b2 ≤ h.2.1) (hR1 : d' + 5 ≤ R.frames) (hR2 : 60 * (d' + 5) ≤ R.locals) (hR3 : h'.1 - b1 ≤ R.cells) (hR4 : h'.2.1 - b2 ≤ R.slots) (hd : decode (mB k) pc = .ok (.invokespecial i, 3))
    (kk : WW p l e R s m args below meth c Q C b1 b2 h' (pc + 3) ls (r.toList ++ rest)) : WW p l e R s m args below meth c Q C b1 b2 h pc ls (as.reverse ++ .ref b :: rest) := by
  intro H A locs hR hl hc
  obtain ⟨w1, w2, w3, w4, w5, w6, w7, w8, w9, w10⟩ := mOK_spec hj
  have hnm : inNm j = mY j := in_nm hj
  obtain ⟨v1, v2, v3⟩ := w9 hkd
  refine ww_ret hl hc hb1 hb2 hm ?_ kk
  rw [List.map_append, List.map_reverse, List.map_cons]
  have hg : GoodIn lw_use (.code (mY j) (mB j) (mL j) none :: lw_good) := by have := good_in j hj; unfold wsC at this; rwa [v3] at this
  have hM' : Met l (mY j) (.code (mY j) (mB j) (mL j) none :: lw_good) (rmC d' h h') (pcC C h (.ref b :: as)) (qcC C r h') (h'.1 - h.1) (h'.2.1 - h.2.1) (frC C) := by have := hM; unfold MM wsC at this; rwa [v3] at this
  rcases mt_ok hv (by omega) with z | z
  · rw [hnm] at z
    exact W.runI (As := as.map (rv C)) (b := ad C b) (cfix F) hM' ⟨callB_of (mPar j) F.2.2.2.2.1 hg rfl rfl rfl (F.2.2.2.2.1 _ w2) (F.2.2.2.2.1 _ z) ⟨w4.1, w4.2, w5⟩ (rm_fit (d := 0) hR1 hR2 w7), v2, F.2.2.2.2.1 _ v1⟩ ⟨pcC_blind C h _, fun U hU hW => ⟨rfl, by rw [hU]; exact hR, State.WarmedH.trans F.2.2.2.2.2.2.2.2 hW⟩⟩ rfl (by simpa using has) (by show A.size = _; rw [hl.1]; exact hls) rfl (by show 2 * 0 + _ ≤ 8; rw [rv_catS]; omega) hd ⟨by omega, by omega⟩
  · rw [hnm] at z
    exact va_Run.run (va_runIN (As := as.map (rv C)) (b := ad C b) (host := "RemoteDesks") (cfix F) hM' ⟨va_cnB (mPar j) F.2.2.2.2.1 hg rfl rfl rfl (va_Nw.of rfl (F.2.2.2.2.1 _ z.1)) (F.2.2.2.2.1 _ w2) ⟨w4.1, w4.2, w5⟩ (rm_fit (d := 0) hR1 hR2 w7), v2, F.2.2.2.2.1 _ v1⟩ ⟨pcC_blind C h _, fun U hU hW => ⟨rfl, by rw [hU]; exact hR, State.WarmedH.trans F.2.2.2.2.2.2.2.2 hW⟩⟩ rfl (by simpa using has) (by show A.size = _; rw [hl.1]; exact hls) rfl (by show 2 * 0 + _ ≤ 8; rw [rv_catS]; omega) hd ⟨by omega, by omega⟩)
theorem wd_oi1 : Cond.instanceMethod Lib.objectInit ∈ lw_use := bpos (n := 162) (by decide +kernel)
theorem wd_oi2 : Cond.code Lib.objectInit ⟨#[0xb1]⟩ 1 none ∈ lw_use := bpos (n := 163) (by decide +kernel)
theorem wd_mx1 : Cond.static Lib.Math.max.name ∈ lw_use := bpos (n := 604) (by decide +kernel)
theorem wd_mx2 : Cond.code Lib.Math.max.name Lib.Math.max.code 2 (some .int) ∈ lw_use := bpos (n := 605) (by decide +kernel)
theorem wd_mi1 : Cond.static Lib.Math.min.name ∈ lw_use := bpos (n := 394) (by decide +kernel)
theorem wd_mi2 : Cond.code Lib.Math.min.name Lib.Math.min.code 2 (some .int) ∈ lw_use := bpos (n := 395) (by decide +kernel)
theorem wd_mi3 : Cond.initialized "java/lang/Math" ∈ lw_use := bpos (n := 143) (by decide +kernel)
theorem link_in {i j : Nat} (hv : lk2 mtT (mO k) i 99999 = j) (hne : j ≠ 99999) (hn : (inNm j).name ≠ "<init>" ∨ inNm j = Lib.objectInit) : Cond.methodLink (cn (mO k)) i (inNm j) ∈ lw_use ∨ (inNm j = Lib.objectInit ∧ Cond.methodLinkNest (cn (mO k)) i (inNm j) "RemoteDesks" ∈ lw_use) := by
  rcases mt_ok hv hne with z | z
  · exact Or.inl z
  · rcases hn with hn | hn
    · exact absurd z.2 hn
    · exact Or.inr ⟨hn, z.1⟩
set_option maxRecDepth 20000 in
theorem nest_oi : mtT.all (fun q => decide (q.2.2 ≠ 900) || (match lw_tbl[q.2.1]? with | some (.methodLink _ _ _) => true | _ => false)) = true := by decide +kernel
theorem w_oinit (F : FCx C p s m args meth c k) {i a : Nat} {r : List Value} (hv : lk2 mtT (mO k) i 99999 = 900) (hls : ls.length = mL k) (hcat : catS r ≤ 8) (hR1 : 1 ≤ R.frames) (hR2 : 60 ≤ R.locals) (hd : decode (mB k) pc = .ok (.invokespecial i, 3)) (kk : WW p l e R s m args below meth c Q C b1 b2 h (pc + 3) ls r) : WW p l e R s m args below meth c Q C b1 b2 h pc ls (.ref a :: r) := by
  intro H A locs hR hl hc
  have hlink : Cond.methodLink (cn (mO k)) i Lib.objectInit ∈ lw_use := by
    obtain ⟨hi, pos, hm⟩ := lk2_mem hv (by decide)
    have h1 := List.all_eq_true.mp mtT_ok _ hm
    have h2 := List.all_eq_true.mp nest_oi _ hm
    unfold mLK at h1
    dsimp only at h1 h2
    split at h1
    · rename_i o' i' y he
      simp only [Bool.and_eq_true, decide_eq_true_eq] at h1
      obtain ⟨g1, g2, g3⟩ := h1
      rw [(key_div hi).1] at g1
      rw [(key_div hi).2] at g2
      subst g1 g2 g3
      exact bpos he
    · rename_i he
      rw [he] at h2
      simp at h2
    · cases h1
  exact W.objInit F.1 F.2.1 F.2.2.2.1 (F.2.2.2.2.1 _ hlink) (F.2.2.2.2.1 _ wd_oi1) (F.2.2.2.2.1 _ wd_oi2) rfl (by show A.size = _; rw [hl.1, F.2.2.1]; exact hls) rfl hd hR1 (by show 2 * 0 + _ + 12 ≤ _; rw [rv_catS]; omega) (kk H A locs hR hl hc)
theorem w_mmax (F : FCx C p s m args meth c k) {i : Nat} {x y : Int32} {r : List Value} (hv : lk2 mtT (mO k) i 99999 = 904) (hls : ls.length = mL k) (hcat : catS r ≤ 8) (hR1 : 1 ≤ R.frames) (hR2 : 60 ≤ R.locals) (hR3 : h.1 - b1 ≤ R.cells) (hR4 : h.2.1 - b2 ≤ R.slots) (hd : decode (mB k) pc = .ok (.invokestatic i, 3)) (kk : WW p l e R s m args below meth c Q C b1 b2 h (pc + 3) ls (.int (if x < y then y else x) :: r)) : WW p l e R s m args below meth c Q C b1 b2 h pc ls (.int y :: .int x :: r) := by
  intro H A locs hR hl hc
  have hlink : Cond.methodLink (cn (mO k)) i Lib.Math.max.name ∈ lw_use := by
    rcases mt_ok hv (by decide) with z | z
    · exact z
    · exact absurd z.2 (by decide)
  exact va_mmax F.1 F.2.1 (by rw [hl.1, F.2.2.1]; exact hls.symm) F.2.2.2.1 (F.2.2.2.2.1 _ hlink) (F.2.2.2.2.1 _ wd_mx1) (F.2.2.2.2.1 _ wd_mi3) (F.2.2.2.2.1 _ wd_mx2) hR1 (by rw [rv_catS]; omega) hR3 hR4 hd (kk H A locs hR hl hc)
theorem w_mmin (F : FCx C p s m args meth c k) {i : Nat} {x y : Int32} {r : List Value} (hv : lk2 mtT (mO k) i 99999 = 905) (hls : ls.length = mL k) (hcat : catS r ≤ 8) (hR1 : 1 ≤ R.frames) (hR2 : 60 ≤ R.locals) (hR3 : h.1 - b1 ≤ R.cells) (hR4 : h.2.1 - b2 ≤ R.slots) (hd : decode (mB k) pc = .ok (.invokestatic i, 3)) (kk : WW p l e R s m args below meth c Q C b1 b2 h (pc + 3) ls (.int (if y < x then y else x) :: r)) : WW p l e R s m args below meth c Q C b1 b2 h pc ls (.int y :: .int x :: r) := by
  intro H A locs hR hl hc
  have hlink : Cond.methodLink (cn (mO k)) i Lib.Math.min.name ∈ lw_use := by
    rcases mt_ok hv (by decide) with z | z
    · exact z
    · exact absurd z.2 (by decide)
  exact va_mmin F.1 F.2.1 (by rw [hl.1, F.2.2.1]; exact hls.symm) F.2.2.2.1 (F.2.2.2.2.1 _ hlink) (F.2.2.2.2.1 _ wd_mi1) (F.2.2.2.2.1 _ wd_mi3) (F.2.2.2.2.1 _ wd_mi2) hR1 (by rw [rv_catS]; omega) hR3 hR4 hd (kk H A locs hR hl hc)
end
