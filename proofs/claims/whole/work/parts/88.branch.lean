section
variable {p : Program} {l : Launch} {e : Env} {R : Room} {s : State} {m : MethodId} {args : Array Value} {below : List Frame} {meth : Method} {c : Code} {Q : State → Prop}
variable {C : cx} {k b1 b2 pc : Nat} {h : pheap} {ls r : List Value}
theorem refO_rv {C : cx} {v : Value} {x : Option Nat} (h : refO v = some x) : rv C v = va_rf (x.map (ad C)) := by
  cases v <;> simp [refO] at h <;> subst h <;> rfl
theorem ad_inj {C : cx} (hC : CX C) {a b : Nat} (h : 5 ≤ a ∨ 5 ≤ b) (he : ad C a = ad C b) : a = b := by
  rcases h with h | h
  · exact Classical.byContradiction fun z => ad_ne hC h (fun y => z y.symm) he.symm
  · exact Classical.byContradiction fun z => ad_ne hC h z he
theorem oldP_eq {C : cx} (hC : CX C) {x y : Option Nat} (h : oldP x y = true) : x.map (ad C) = y.map (ad C) ↔ x = y := by
  cases x <;> cases y <;> simp [oldP] at h ⊢
  rename_i a b
  constructor
  · intro he
    rcases h with h | h
    · exact h
    · exact ad_inj hC h he
  · rintro rfl
    rfl
theorem w_acmp (hC : CX C) (F : FCx C p s m args meth c k) {cd : ACond} {off : Int} {v u : Value} {x y : Option Nat} (hv : refO v = some y) (hu : refO u = some x) (ho : oldP x y = true) (hp : 0 ≤ tgi pc off) (hd : decode (mB k) pc = .ok (.if_acmp cd off, 3)) (kk : WW p l e R s m args below meth c Q C b1 b2 h (match (generalizing := false) cd with | .eq => (if x = y then (tgi pc off).toNat else pc + 3) | .ne => (if x = y then pc + 3 else (tgi pc off).toNat)) ls r) : WW p l e R s m args below meth c Q C b1 b2 h pc ls (v :: u :: r) := by
  intro H A locs hR hl hc
  have k2 := kk H A locs hR hl hc
  have ht : (pc : Int) + off = ((tgi pc off).toNat : Int) := by rw [Int.toNat_of_nonneg hp]; rfl
  rw [List.map_cons, List.map_cons, refO_rv hv, refO_rv hu]
  have hiff := oldP_eq hC ho
  cases cd with
  | eq =>
    refine lv_acmp_eq F.1 F.2.1 hd ht (fun q => ?_) (fun q => ?_)
    · simp only [if_pos (hiff.mp q)] at k2
      exact k2
    · simp only [if_neg (fun z => q (hiff.mpr z))] at k2
      exact k2
  | ne =>
    refine lv_acmp_ne F.1 F.2.1 hd ht (fun q => ?_) (fun q => ?_)
    · simp only [if_neg (fun z => q (hiff.mpr z))] at k2
      exact k2
    · simp only [if_pos (hiff.mp q)] at k2
      exact k2
theorem w_tabOut (F : FCx C p s m args meth c k) {d lo hi : Int} {offs : Array Int} {len : Nat} {x : Int32} (hx : x.toInt < lo ∨ hi < x.toInt) (hp : 0 ≤ tgi pc d) (hd : decode (mB k) pc = .ok (.tableswitch d lo hi offs, len)) (kk : WW p l e R s m args below meth c Q C b1 b2 h (tgi pc d).toNat ls r) : WW p l e R s m args below meth c Q C b1 b2 h pc ls (.int x :: r) :=
  fun H A locs hR hl hc => lv_tableOut F.1 F.2.1 hd hx (by rw [Int.toNat_of_nonneg hp]; rfl) (kk H A locs hR hl hc)
theorem w_tabIn (F : FCx C p s m args meth c k) {d lo hi off : Int} {offs : Array Int} {len : Nat} {x : Int32} (hx : ¬ (x.toInt < lo ∨ hi < x.toInt)) (ho : offs[(x.toInt - lo).toNat]? = some off) (hp : 0 ≤ tgi pc off) (hd : decode (mB k) pc = .ok (.tableswitch d lo hi offs, len)) (kk : WW p l e R s m args below meth c Q C b1 b2 h (tgi pc off).toNat ls r) : WW p l e R s m args below meth c Q C b1 b2 h pc ls (.int x :: r) :=
  fun H A locs hR hl hc => lv_tableIn F.1 F.2.1 hd (fun z => hx (Or.inl z)) (fun z => hx (Or.inr z)) ho (by rw [Int.toNat_of_nonneg hp]; rfl) (kk H A locs hR hl hc)
theorem w_look (F : FCx C p s m args meth c k) {d : Int} {ps : Array (Int × Int)} {len : Nat} {x : Int32} (hq : (ps.toList.zip (ps.toList.drop 1)).all (fun (a, next) => a.1 < next.1) = true) (hp : 0 ≤ tgi pc (Op.lookupswitch.offset ps.toList d x.toInt)) (hd : decode (mB k) pc = .ok (.lookupswitch d ps, len)) (kk : WW p l e R s m args below meth c Q C b1 b2 h (tgi pc (Op.lookupswitch.offset ps.toList d x.toInt)).toNat ls r) : WW p l e R s m args below meth c Q C b1 b2 h pc ls (.int x :: r) :=
  fun H A locs hR hl hc => lv_lookup F.1 F.2.1 hd hq rfl (by rw [Int.toNat_of_nonneg hp]; rfl) (kk H A locs hR hl hc)
end
