/-! what the tables give, by a method's own numbers -/
theorem lk_mem {α : Type} : ∀ {t : List (Nat × α)} {k : Nat} {v : α}, t.lookup k = some v → (k, v) ∈ t
  | [], k, v, h => by simp at h
  | (a, b) :: r, k, v, h => by
    rw [List.lookup_cons] at h
    split at h
    · rename_i hk
      cases h
      rw [beq_iff_eq] at hk
      subst hk
      exact List.mem_cons_self
    · exact List.mem_cons_of_mem _ (lk_mem h)
theorem lk2_mem {α : Type} {t : List (Nat × Nat × α)} {o i : Nat} {d v : α} (h : lk2 t o i d = v) (hne : v ≠ d) : i < 100000 ∧ ∃ p, (o * 100000 + i, p, v) ∈ t := by
  unfold lk2 at h
  split at h
  · rename_i hi
    refine ⟨hi, ?_⟩
    cases hl : t.lookup (o * 100000 + i) with
    | none =>
      rw [hl] at h
      exact absurd h.symm hne
    | some q =>
      rw [hl] at h
      have hv : q.2 = v := h
      refine ⟨q.1, ?_⟩
      have := lk_mem hl
      rw [← hv]
      exact this
  · exact absurd h.symm hne
theorem key_div {o i : Nat} (h : i < 100000) : (o * 100000 + i) / 100000 = o ∧ (o * 100000 + i) % 100000 = i := by omega
theorem all_chunk {α : Type} {t : List α} {f : α → Bool} {j : Nat} (n : Nat) (h1 : ((t.drop j).take n).all f = true) (h2 : (t.drop (j + n)).all f = true) : (t.drop j).all f = true := by
  rw [← List.take_append_drop n (t.drop j), List.all_append, h1, List.drop_drop, h2]
  rfl
theorem ftT_ok : ftT.all fOK = true := all_chunk (j := 0) 60 ftT_ok0 (all_chunk 60 ftT_ok1 (all_chunk 60 ftT_ok2 (all_chunk 60 ftT_ok3 (all_chunk 60 ftT_ok4 (by decide +kernel)))))
theorem mtT_ok : mtT.all mLK = true := all_chunk (j := 0) 60 mtT_ok0 (all_chunk 60 mtT_ok1 (all_chunk 60 mtT_ok2 (all_chunk 60 mtT_ok3 (all_chunk 60 mtT_ok4 (all_chunk 60 mtT_ok5 (by decide +kernel))))))
theorem bpos {n : Nat} {w : Cond} (h : lw_tbl[n]? = some w) (hu : useW w = true := by rfl) : w ∈ lw_use := use_of (List.mem_of_getElem? h) hu
theorem lay_use {C : String} {T : u_T} {N : Nat} {w : Cond} (h : w ∈ u_ws C T N) : useW w = true := by
  obtain ⟨k, -, rfl⟩ := List.mem_map.mp h
  unfold u_lay
  split <;> rfl
theorem ft_ok {o i v : Nat} (hv : lk2 ftT o i 99999 = v) (hne : v ≠ 99999) : ∃ (q : vw_C) (ref : String), vwCl[v / 1000]? = some q ∧ v % 1000 < q.2.2 ∧ Cond.fieldLink (cn o) i ref (q.2.1 (v % 1000)).2.1 (q.2.1 (v % 1000)).2.2.1 ∈ lw_use ∧
    (ref = (q.2.1 (v % 1000)).1 ∨ (ref = "java/util/ArrayList" ∧ (q.2.1 (v % 1000)).1 = "java/util/AbstractList" ∧ (q.2.1 (v % 1000)).2.1 = "modCount" ∧ (q.2.1 (v % 1000)).2.2.1 = "I")) := by
  obtain ⟨hi, pos, hm⟩ := lk2_mem hv hne
  have h := List.all_eq_true.mp ftT_ok _ hm
  unfold fOK at h
  dsimp only at h
  split at h
  · rename_i o' i' ref n d he
    split at h
    · rename_i q hq
      simp only [Bool.and_eq_true, Bool.or_eq_true, decide_eq_true_eq] at h
      obtain ⟨h1, h2, h3, h4, h5, h6⟩ := h
      rw [(key_div hi).1] at h1
      rw [(key_div hi).2] at h2
      subst h1 h2
      refine ⟨q, ref, hq, h3, ?_, ?_⟩
      · rw [← h4, ← h5]
        exact bpos he
      · rcases h6 with h6 | ⟨g1, g2, g3, g4⟩
        · exact Or.inl h6
        · exact Or.inr ⟨g1, g2, h4 ▸ g3, h5 ▸ g4⟩
    · cases h
  · cases h
theorem mt_ok {o i v : Nat} (hv : lk2 mtT o i 99999 = v) (hne : v ≠ 99999) : Cond.methodLink (cn o) i (inNm v) ∈ lw_use ∨ (Cond.methodLinkNest (cn o) i (inNm v) "RemoteDesks" ∈ lw_use ∧ (inNm v).name = "<init>") := by
  obtain ⟨hi, pos, hm⟩ := lk2_mem hv hne
  have h := List.all_eq_true.mp mtT_ok _ hm
  unfold mLK at h
  dsimp only at h
  split at h
  · rename_i o' i' y he
    simp only [Bool.and_eq_true, decide_eq_true_eq] at h
    obtain ⟨h1, h2, h3⟩ := h
    rw [(key_div hi).1] at h1
    rw [(key_div hi).2] at h2
    subst h1 h2 h3
    exact Or.inl (bpos he)
  · rename_i o' i' y hst he
    simp only [Bool.and_eq_true, decide_eq_true_eq] at h
    obtain ⟨h1, h2, h3, h4, h5⟩ := h
    rw [(key_div hi).1] at h1
    rw [(key_div hi).2] at h2
    subst h1 h2 h3 h4
    exact Or.inr ⟨bpos he, h5⟩
  · cases h
theorem ct_ok {o i : Nat} {v : Int} (hv : lk2 ctT o i 99999 = v) (hne : v ≠ 99999) : Cond.constant (cn o) i (Int32.ofInt v) ∈ lw_use := by
  obtain ⟨hi, pos, hm⟩ := lk2_mem hv hne
  have h := List.all_eq_true.mp ctT_ok _ hm
  unfold cOK at h
  dsimp only at h
  split at h
  · rename_i o' i' y he
    simp only [Bool.and_eq_true, decide_eq_true_eq] at h
    obtain ⟨h1, h2, h3⟩ := h
    rw [(key_div hi).1] at h1
    rw [(key_div hi).2] at h2
    subst h1 h2 h3
    exact bpos he
  · cases h
theorem cl_ok {o i v : Nat} (hv : lk2 clT o i 99999 = v) (hne : v ≠ 99999) : Cond.constantLong (cn o) i (Int64.ofNat v) ∈ lw_use := by
  obtain ⟨hi, pos, hm⟩ := lk2_mem hv hne
  have h := List.all_eq_true.mp clT_ok _ hm
  unfold clOK at h
  dsimp only at h
  split at h
  · rename_i o' i' y he
    simp only [Bool.and_eq_true, decide_eq_true_eq] at h
    obtain ⟨h1, h2, h3⟩ := h
    rw [(key_div hi).1] at h1
    rw [(key_div hi).2] at h2
    subst h1 h2 h3
    exact bpos he
  · cases h
theorem nw_ok {o i v : Nat} (hv : lk2 nwT o i 99999 = v) (hne : v ≠ 99999) : Cond.classLink (cn o) i (cn v) ∈ lw_use ∧ v < 14 := by
  obtain ⟨hi, pos, hm⟩ := lk2_mem hv hne
  have h := List.all_eq_true.mp nwT_ok _ hm
  unfold nOK at h
  dsimp only at h
  split at h
  · rename_i o' i' y he
    simp only [Bool.and_eq_true, decide_eq_true_eq] at h
    obtain ⟨h1, h2, h3, h4⟩ := h
    rw [(key_div hi).1] at h1
    rw [(key_div hi).2] at h2
    subst h1 h2 h3
    exact ⟨bpos he, h4⟩
  · cases h
theorem an_ok {o i v : Nat} (hv : lk2 anT o i 99999 = v) (hne : v ≠ 99999) : Cond.classLink (cn o) i (agC v) ∈ lw_use ∧ 24 ≤ v ∧ v ≤ 26 := by
  obtain ⟨hi, pos, hm⟩ := lk2_mem hv hne
  have h := List.all_eq_true.mp anT_ok _ hm
  unfold aOK at h
  dsimp only at h
  split at h
  · rename_i o' i' y he
    simp only [Bool.and_eq_true, decide_eq_true_eq] at h
    obtain ⟨h1, h2, h3, h4, h5⟩ := h
    rw [(key_div hi).1] at h1
    rw [(key_div hi).2] at h2
    subst h1 h2 h5
    exact ⟨bpos he, h3, h4⟩
  · cases h
theorem sg_ok {o i v : Nat} (hv : lk2 stT o i 99999 = v) (hne : v ≠ 99999) : (0 < v ∧ v < 5) ∧ (Cond.fieldLink (cn o) i (stNm v).1 (stNm v).2.1 (stNm v).2.2 ∈ lw_use ∨ ∃ hst, Cond.fieldLinkNest (cn o) i (stNm v).1 (stNm v).2.1 (stNm v).2.2 hst ∈ lw_use) := by
  obtain ⟨hi, pos, hm⟩ := lk2_mem hv hne
  have h := List.all_eq_true.mp stT_ok _ hm
  unfold sOK at h
  dsimp only at h
  split at h
  · rename_i o' i' ref n d he
    simp only [Bool.and_eq_true, decide_eq_true_eq] at h
    obtain ⟨h1, h2, h3, h4, h5⟩ := h
    rw [(key_div hi).1] at h1
    rw [(key_div hi).2] at h2
    subst h1 h2
    rw [← h5]
    exact ⟨⟨h3, h4⟩, Or.inl (bpos he)⟩
  · rename_i o' i' ref n d hst he
    simp only [Bool.and_eq_true, decide_eq_true_eq] at h
    obtain ⟨h1, h2, h3, h4, h5⟩ := h
    rw [(key_div hi).1] at h1
    rw [(key_div hi).2] at h2
    subst h1 h2
    rw [← h5]
    exact ⟨⟨h3, h4⟩, Or.inr ⟨hst, bpos he⟩⟩
  · cases h
theorem vw_in : ∀ (c : Nat) (q : vw_C), vwCl[c]? = some q → ∀ w ∈ u_ws q.1 q.2.1 q.2.2, w ∈ lw_use
  | 0, q, h => by cases h; exact fun w hw => use_of (inJx4a65c w hw) (lay_use hw)
  | 1, q, h => by cases h; exact fun w hw => use_of (inX0 w hw) (lay_use hw)
  | 2, q, h => by cases h; exact fun w hw => use_of (inX1 w hw) (lay_use hw)
  | 3, q, h => by cases h; exact fun w hw => use_of (inX2 w hw) (lay_use hw)
  | 4, q, h => by cases h; exact fun w hw => use_of (inX3 w hw) (lay_use hw)
  | 5, q, h => by cases h; exact fun w hw => use_of (inX4 w hw) (lay_use hw)
  | 6, q, h => by cases h; exact fun w hw => use_of (inX5 w hw) (lay_use hw)
  | 7, q, h => by cases h; exact fun w hw => use_of (inX6 w hw) (lay_use hw)
  | 8, q, h => by cases h; exact fun w hw => use_of (inX7 w hw) (lay_use hw)
  | 9, q, h => by cases h; exact fun w hw => use_of (inX8 w hw) (lay_use hw)
  | 10, q, h => by cases h; exact fun w hw => use_of (inX9 w hw) (lay_use hw)
  | 11, q, h => by cases h; exact fun w hw => use_of (inX10 w hw) (lay_use hw)
  | 12, q, h => by cases h; exact fun w hw => use_of (inX11 w hw) (lay_use hw)
  | 13, q, h => by cases h; exact fun w hw => use_of (inX12 w hw) (lay_use hw)
  | n + 14, q, h => by simp [vwCl] at h
theorem vw_nm : ∀ (c : Nat) (q : vw_C), vwCl[c]? = some q → ∀ a, a < q.2.2 → ∀ b, b < q.2.2 → a ≠ b → (q.2.1 a).2.1 ≠ (q.2.1 b).2.1
  | 0, q, h => by cases h; exact nmJx4a65c
  | 1, q, h => by cases h; exact nmX0
  | 2, q, h => by cases h; exact nmX1
  | 3, q, h => by cases h; exact nmX2
  | 4, q, h => by cases h; exact nmX3
  | 5, q, h => by cases h; exact nmX4
  | 6, q, h => by cases h; exact nmX5
  | 7, q, h => by cases h; exact nmX6
  | 8, q, h => by cases h; exact nmX7
  | 9, q, h => by cases h; exact nmX8
  | 10, q, h => by cases h; exact nmX9
  | 11, q, h => by cases h; exact nmX10
  | 12, q, h => by cases h; exact nmX11
  | 13, q, h => by cases h; exact nmX12
  | n + 14, q, h => by simp [vwCl] at h
theorem vw_ty : ∀ (c : Nat) (q : vw_C), vwCl[c]? = some q → ∃ ty : Nat → FieldType, ∀ k, k < q.2.2 → parseFieldDescriptor (q.2.1 k).2.2.1 = some (ty k)
  | 0, q, h => by cases h; exact ⟨tyJx4a65c, tyJx4a65c_ok⟩
  | 1, q, h => by cases h; exact ⟨tyX0, tyX0_ok⟩
  | 2, q, h => by cases h; exact ⟨tyX1, tyX1_ok⟩
  | 3, q, h => by cases h; exact ⟨tyX2, tyX2_ok⟩
  | 4, q, h => by cases h; exact ⟨tyX3, tyX3_ok⟩
  | 5, q, h => by cases h; exact ⟨tyX4, tyX4_ok⟩
  | 6, q, h => by cases h; exact ⟨tyX5, tyX5_ok⟩
  | 7, q, h => by cases h; exact ⟨tyX6, tyX6_ok⟩
  | 8, q, h => by cases h; exact ⟨tyX7, tyX7_ok⟩
  | 9, q, h => by cases h; exact ⟨tyX8, tyX8_ok⟩
  | 10, q, h => by cases h; exact ⟨tyX9, tyX9_ok⟩
  | 11, q, h => by cases h; exact ⟨tyX10, tyX10_ok⟩
  | 12, q, h => by cases h; exact ⟨tyX11, tyX11_ok⟩
  | 13, q, h => by cases h; exact ⟨tyX12, tyX12_ok⟩
  | n + 14, q, h => by simp [vwCl] at h
theorem vwn_ : ∀ (c : Nat) (q : vw_C), vwCl[c]? = some q → clN c = q.2.2 ∧ q.1 = cn c ∧ c < 14
  | 0, q, h => by cases h; exact ⟨by decide +kernel, by decide +kernel, by decide⟩
  | 1, q, h => by cases h; exact ⟨by decide +kernel, by decide +kernel, by decide⟩
  | 2, q, h => by cases h; exact ⟨by decide +kernel, by decide +kernel, by decide⟩
  | 3, q, h => by cases h; exact ⟨by decide +kernel, by decide +kernel, by decide⟩
  | 4, q, h => by cases h; exact ⟨by decide +kernel, by decide +kernel, by decide⟩
  | 5, q, h => by cases h; exact ⟨by decide +kernel, by decide +kernel, by decide⟩
  | 6, q, h => by cases h; exact ⟨by decide +kernel, by decide +kernel, by decide⟩
  | 7, q, h => by cases h; exact ⟨by decide +kernel, by decide +kernel, by decide⟩
  | 8, q, h => by cases h; exact ⟨by decide +kernel, by decide +kernel, by decide⟩
  | 9, q, h => by cases h; exact ⟨by decide +kernel, by decide +kernel, by decide⟩
  | 10, q, h => by cases h; exact ⟨by decide +kernel, by decide +kernel, by decide⟩
  | 11, q, h => by cases h; exact ⟨by decide +kernel, by decide +kernel, by decide⟩
  | 12, q, h => by cases h; exact ⟨by decide +kernel, by decide +kernel, by decide⟩
  | 13, q, h => by cases h; exact ⟨by decide +kernel, by decide +kernel, by decide⟩
  | n + 14, q, h => by simp [vwCl] at h
def kdT : FieldType → Nat
  | .int => 0
  | .long => 1
  | .boolean => 2
  | .object _ => 3
  | .array _ => 3
  | _ => 9
def fkc (c : Nat) : Bool := match vwCl[c]? with
  | some q => (List.range q.2.2).all (fun k => match parseFieldDescriptor (q.2.1 k).2.2.1 with | some ty => decide (kdT ty = fkd (1000 * c + k)) | none => false)
  | none => true
set_option maxRecDepth 20000 in
theorem fk_all : (List.range 14).all fkc = true := by decide +kernel
theorem fk_ok {c k : Nat} {q : vw_C} (hq : vwCl[c]? = some q) (hk : k < q.2.2) {ty : FieldType} (hd : parseFieldDescriptor (q.2.1 k).2.2.1 = some ty) : kdT ty = fkd (1000 * c + k) := by
  have hc := (vwn_ c q hq).2.2
  have h := List.all_eq_true.mp fk_all c (List.mem_range.mpr hc)
  unfold fkc at h
  rw [hq] at h
  have h2 := List.all_eq_true.mp h k (List.mem_range.mpr hk)
  rw [hd] at h2
  simpa using h2
theorem vOK_fit {C : cx} {ty : FieldType} {v : Value} (h : vOK (kdT ty) v = true) : narrow ty (rv C v) = rv C v ∧ fits ty (rv C v) = true := by
  cases ty <;> cases v <;> simp_all [kdT, vOK, rv, narrow, fits]
  rename_i x
  rcases h with h | h <;> subst h <;> decide
theorem iniC : ∀ c, c < 14 → Cond.initialized (cn c) ∈ lw_use
  | 0, _ => bpos (n := 138) (by decide +kernel)
  | 1, _ => bpos (n := 135) (by decide +kernel)
  | 2, _ => bpos (n := 142) (by decide +kernel)
  | 3, _ => bpos (n := 154) (by decide +kernel)
  | 4, _ => bpos (n := 151) (by decide +kernel)
  | 5, _ => bpos (n := 153) (by decide +kernel)
  | 6, _ => bpos (n := 155) (by decide +kernel)
  | 7, _ => bpos (n := 144) (by decide +kernel)
  | 8, _ => bpos (n := 152) (by decide +kernel)
  | 9, _ => bpos (n := 145) (by decide +kernel)
  | 10, _ => bpos (n := 139) (by decide +kernel)
  | 11, _ => bpos (n := 140) (by decide +kernel)
  | 12, _ => bpos (n := 134) (by decide +kernel)
  | 13, _ => bpos (n := 141) (by decide +kernel)
  | n + 14, h => absurd h (by omega)
theorem insC : ∀ c, c < 14 → Cond.instantiable (cn c) (clN c) ∈ lw_use
  | 0, _ => bpos (n := 235) (by decide +kernel)
  | 1, _ => bpos (n := 165) (by decide +kernel)
  | 2, _ => bpos (n := 386) (by decide +kernel)
  | 3, _ => bpos (n := 968) (by decide +kernel)
  | 4, _ => bpos (n := 742) (by decide +kernel)
  | 5, _ => bpos (n := 845) (by decide +kernel)
  | 6, _ => bpos (n := 1190) (by decide +kernel)
  | 7, _ => bpos (n := 535) (by decide +kernel)
  | 8, _ => bpos (n := 795) (by decide +kernel)
  | 9, _ => bpos (n := 546) (by decide +kernel)
  | 10, _ => bpos (n := 261) (by decide +kernel)
  | 11, _ => bpos (n := 295) (by decide +kernel)
  | 12, _ => bpos (n := 157) (by decide +kernel)
  | 13, _ => bpos (n := 1395) (by decide +kernel)
  | n + 14, h => absurd h (by omega)
theorem sameW : Cond.sameField "java/util/ArrayList" "java/util/AbstractList" "modCount" "I" ∈ lw_use := bpos (n := 252) (by decide +kernel)
theorem acB : Cond.arrayClass .byte ∈ lw_use := bpos (n := 231) (by decide +kernel)
theorem acJ : Cond.arrayClass .long ∈ lw_use := bpos (n := 232) (by decide +kernel)
theorem acI : Cond.arrayClass .int ∈ lw_use := bpos (n := 233) (by decide +kernel)
theorem acZ : Cond.arrayClass .boolean ∈ lw_use := bpos (n := 781) (by decide +kernel)
theorem aoO : Cond.arrayOver (.object "java/lang/Object") ∈ lw_use := bpos (n := 635) (by decide +kernel)
theorem aoV : Cond.arrayOver (.object "RemoteDesks$Value") ∈ lw_use := bpos (n := 541) (by decide +kernel)
theorem aoF : Cond.arrayOver (.object "RemoteDesks$Failure") ∈ lw_use := bpos (n := 851) (by decide +kernel)
theorem casO : ∀ c, 0 < c → c < 14 → Cond.castable (cn c) "java/lang/Object" ∈ lw_use
  | 0, h, _ => absurd h (by omega)
  | 1, _, _ => bpos (n := 2190) (by decide +kernel)
  | 2, _, _ => bpos (n := 2194) (by decide +kernel)
  | 3, _, _ => bpos (n := 2200) (by decide +kernel)
  | 4, _, _ => bpos (n := 2197) (by decide +kernel)
  | 5, _, _ => bpos (n := 2199) (by decide +kernel)
  | 6, _, _ => bpos (n := 2201) (by decide +kernel)
  | 7, _, _ => bpos (n := 2195) (by decide +kernel)
  | 8, _, _ => bpos (n := 2198) (by decide +kernel)
  | 9, _, _ => bpos (n := 2196) (by decide +kernel)
  | 10, _, _ => bpos (n := 2191) (by decide +kernel)
  | 11, _, _ => bpos (n := 2192) (by decide +kernel)
  | 12, _, _ => bpos (n := 2189) (by decide +kernel)
  | 13, _, _ => bpos (n := 2193) (by decide +kernel)
  | n + 14, _, h => absurd h (by omega)
theorem casS : ∀ c, (c = 3 ∨ c = 4 ∨ c = 5 ∨ c = 7 ∨ c = 8 ∨ c = 9) → Cond.castable (cn c) (cn c) ∈ lw_use := by
  intro c h
  rcases h with rfl | rfl | rfl | rfl | rfl | rfl
  · exact bpos (n := 2185) (by decide +kernel)
  · exact bpos (n := 2182) (by decide +kernel)
  · exact bpos (n := 2183) (by decide +kernel)
  · exact bpos (n := 2180) (by decide +kernel)
  · exact bpos (n := 2181) (by decide +kernel)
  · exact bpos (n := 2184) (by decide +kernel)
