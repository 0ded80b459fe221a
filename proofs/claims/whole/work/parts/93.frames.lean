section
variable {p : Program} {l : Launch} {e : Env} {R : Room} {s : State} {m : MethodId} {args : Array Value} {below : List Frame} {meth : Method} {c : Code} {Q : State → Prop}
variable {C : cx} {k b1 b2 pc : Nat} {h : pheap} {ls st : List Value}
theorem w_intS {A0 : Array Value} (hC : CX C) (hMi : ∃ mi, va_Mi "[Ljava/lang/Object;" mi C.1) (hw0 : ∀ w ∈ lw_tbl, w.before A0 C.1 = true) (F : FCx C p s m args meth c k) {i j : Nat} {r2 : Option Value} {h2 : pheap} {rest : List Value} (hv : lk2 mtT (mO k) i 99999 = j) (hj : 901 ≤ j) (hx : xin j h st = some (r2, h2, rest)) (hls : ls.length = mL k) (hcat : catS rest ≤ 8) (hR1 : 5 ≤ R.frames) (hR2 : 300 ≤ R.locals) (hb1 : b1 ≤ h.1) (hb2 : b2 ≤ h.2.1) (hr1 : h2.1 - b1 ≤ R.cells) (hr2 : h2.2.1 - b2 ≤ R.slots) (hd : decode (mB k) pc = .ok (.invokestatic i, 3))
    (kk : WW p l e R s m args below meth c Q C b1 b2 h2 (pc + 3) ls (r2.toList ++ rest)) : WW p l e R s m args below meth c Q C b1 b2 h pc ls st := by
  unfold xin at hx
  split at hx
  · omega
  · split at hx
    · split at hx
      · rename_i hc; cases hx; exact w_cpB hC hw0 F hv hls hcat hR1 hR2 hc.1 hc.2.1 hc.2.2.1 hc.2.2.2.1 hc.2.2.2.2 hb1 hb2 hr1 hr2 hd kk
      · cases hx
    · cases hx
  · split at hx
    · split at hx
      · rename_i hc; cases hx; exact w_cpO hC hMi hw0 F hv hls hcat hR1 hR2 hc.1 hc.2.1 hc.2.2.1 hc.2.2.2.1 hc.2.2.2.2 hb1 hb2 hr1 hr2 hd kk
      · cases hx
    · cases hx
  · split at hx
    · split at hx
      · rename_i hc; cases hx; exact w_cpR hC hw0 F hv hls hcat hR1 hR2 hc.1 hc.2.1 hc.2.2.1 hc.2.2.2.1 hc.2.2.2.2.1 hc.2.2.2.2.2.1 hc.2.2.2.2.2.2 hb1 hb2 hr1 hr2 hd kk
      · cases hx
    · cases hx
  · split at hx
    · cases hx; exact w_mmax F hv hls hcat (by omega) (by omega) hr1 hr2 hd kk
    · cases hx
  · split at hx
    · cases hx; exact w_mmin F hv hls hcat (by omega) (by omega) hr1 hr2 hd kk
    · cases hx
  · cases hx
end
set_option maxRecDepth 20000 in
theorem mna_all : (List.range 288).all (fun k => (ptl.getD k []).all (fun q => match q.2.1 with | .multianewarray _ _ => decide (k = 5) && decide (q.1 = 17) | _ => true)) = true := by decide +kernel
theorem mna_dec : decode (mB 5) 17 = .ok (.multianewarray 15 2, 4) := by decide +kernel
theorem mna_idx {k pc : Nat} {i raw : Instr} {len : Nat} (hf : fetch k pc = some (i, len)) (hd : decode (mB k) pc = .ok (raw, len)) (hr : rslv (mO k) pc raw = i) : ∀ a b, raw = .multianewarray a b → a = 15 := by
  rintro a b rfl
  obtain ⟨t, ht, hm⟩ := fetch_mem hf
  have hk : k < 288 := by rw [← ptl_len]; exact (List.getElem?_eq_some_iff.mp ht).1
  have h1 := List.all_eq_true.mp mna_all k (List.mem_range.mpr hk)
  rw [List.getD_eq_getElem?_getD, ht] at h1
  have h2 := List.all_eq_true.mp h1 _ hm
  rw [← hr] at h2
  simp only [rslv, Bool.and_eq_true, decide_eq_true_eq] at h2
  obtain ⟨e1, e2⟩ := h2
  subst e1 e2
  rw [mna_dec] at hd
  cases hd
  rfl
set_option maxHeartbeats 4000000 in
theorem frm_all {l : Launch} {C : cx} {A0 : Array Value} (hC : CX C) (hMi : ∃ mi, va_Mi "[Ljava/lang/Object;" mi C.1) (hw0 : ∀ w ∈ lw_tbl, w.before A0 C.1 = true) : ∀ n, FRM l C n
  | 0 => fun d h k pc ls st r hE hx => by cases hx
  | n + 1 => by
    have ih := frm_all (l := l) hC hMi hw0 n
    intro d h k pc ls st r hE hx p e R s m args below meth c Q b1 b2 F hb1 hb2 hls hR1 hR2 hR3 hR4 hret
    have hmono := xe_mono _ _ _ _ _ _ _ _ _ hx
    unfold xe at hx
    split at hx
    · cases hx
    · rename_i i len hf
      obtain ⟨raw, hd, hlen, hr, hpf⟩ := fetch_ok hf
      split at hx
      · -- ireturn
        cases rs_i hr
        cases len1 (n := 1) hlen rfl (by decide)
        split at hx
        · split at hx
          · rename_i hok; cases hx
            exact hret pc _ ls hd ⟨_, rfl, hok⟩
          · cases hx
        · cases hx
      · cases rs_l hr
        cases len1 (n := 1) hlen rfl (by decide)
        split at hx
        · split at hx
          · rename_i hok; cases hx
            exact hret pc _ ls hd ⟨_, rfl, hok⟩
          · cases hx
        · cases hx
      · cases rs_a hr
        cases len1 (n := 1) hlen rfl (by decide)
        split at hx
        · split at hx
          · rename_i hok; cases hx
            exact hret pc _ ls hd ⟨Or.inl rfl, hok⟩
          · cases hx
        · split at hx
          · rename_i hok; cases hx
            exact hret pc _ ls hd ⟨Or.inr ⟨_, rfl⟩, hok⟩
          · cases hx
        · cases hx
      · cases rs_v hr
        cases len1 (n := 1) hlen rfl (by decide)
        split at hx
        · split at hx
          · rename_i hok; cases hx
            exact hret pc _ ls hd ⟨rfl, hok⟩
          · cases hx
        · cases hx
      · -- invokestatic
        obtain ⟨idx, rfl, hv⟩ := rs_is hr
        cases len1 (n := 3) hlen rfl (by decide)
        unfold xc at hx
        split at hx
        · cases hx
        · rename_i d'
          split at hx
          · split at hx
            · rename_i hj
              split at hx
              · cases hx
              · rename_i r2 h2 rest hq
                split at hx
                · rename_i hcat
                  have hm1 := xin_mono hq
                  have hm2 := xe_mono _ _ _ _ _ _ _ _ _ hx
                  exact w_intS hC hMi hw0 F hv (by omega) hq hls hcat (by omega) (by omega) hb1 hb2 (by omega) (by omega) hd (ih _ _ _ _ _ _ _ _ hx p e R s m args below meth c Q b1 b2 F (by omega) (by omega) hls hR1 hR2 hR3 hR4 hret)
                · cases hx
            · cases hx
          · split at hx
            · cases hx
            · rename_i as rest hq
              split at hx
              · rename_i hcat
                split at hx
                · cases hx
                · rename_i r2 h2 hq2
                  obtain ⟨hk0, hal, rfl⟩ := xarg_0 hq
                  have hj := kind_lt hk0 (by decide)
                  have hm1 := xe_mono _ _ _ _ _ _ _ _ _ hq2
                  have hm2 := xe_mono _ _ _ _ _ _ _ _ _ hx
                  exact w_callS hC F hj hv hk0 hal (met_of hw0 ih hj hq2 hcat.2) hm1 hls hcat.1 hb1 hb2 (by omega) (by omega) (by omega) (by omega) hd (ih _ _ _ _ _ _ _ _ hx p e R s m args below meth c Q b1 b2 F (by omega) (by omega) hls hR1 hR2 hR3 hR4 hret)
              · cases hx
      · -- invokespecial
        obtain ⟨idx, rfl, hv⟩ := rs_ii hr
        cases len1 (n := 3) hlen rfl (by decide)
        unfold xc at hx
        split at hx
        · cases hx
        · rename_i d'
          split at hx
          · split at hx
            · rename_i hj
              split at hx
              · cases hx
              · rename_i r2 h2 rest hq
                split at hx
                · rename_i hcat
                  have hj9 : _ = 900 := (show _ = 900 from by rcases hj with hj | hj; exact hj.1; exact absurd hj.2 (by decide))
                  subst hj9
                  have hq2 : (match (generalizing := false) st with
                    | .ref _ :: r => some ((none : Option Value), h, r)
                    | _ => none) = some (r2, h2, rest) := hq
                  split at hq2
                  · cases hq2
                    exact w_oinit F hv hls hcat (by omega) (by omega) hd (ih _ _ _ _ _ _ _ _ hx p e R s m args below meth c Q b1 b2 F (by omega) (by omega) hls hR1 hR2 hR3 hR4 hret)
                  · cases hq2
                · cases hx
            · cases hx
          · split at hx
            · cases hx
            · rename_i as rest hq
              split at hx
              · rename_i hcat
                split at hx
                · cases hx
                · rename_i r2 h2 hq2
                  obtain ⟨hk0, b, bs, rfl, hal, rfl⟩ := xarg_1 hq
                  have hj := kind_lt hk0 (by decide)
                  have hm1 := xe_mono _ _ _ _ _ _ _ _ _ hq2
                  have hm2 := xe_mono _ _ _ _ _ _ _ _ _ hx
                  exact w_callI hC F hj hv hk0 hal (met_of hw0 ih hj hq2 hcat.2) hm1 hls hcat.1 hb1 hb2 (by omega) (by omega) (by omega) (by omega) hd (ih _ _ _ _ _ _ _ _ hx p e R s m args below meth c Q b1 b2 F (by omega) (by omega) hls hR1 hR2 hR3 hR4 hret)
              · cases hx
      · -- invokevirtual
        obtain ⟨idx, rfl, hv⟩ := rs_iv hr
        cases len1 (n := 3) hlen rfl (by decide)
        unfold xc at hx
        split at hx
        · cases hx
        · rename_i d'
          split at hx
          · split at hx
            · rename_i hj
              omega
            · cases hx
          · split at hx
            · cases hx
            · rename_i as rest hq
              split at hx
              · rename_i hcat
                split at hx
                · cases hx
                · rename_i r2 h2 hq2
                  obtain ⟨hk0, b, bs, rfl, hal, rfl, hb, ht⟩ := xarg_2 hq
                  have hj := kind_lt hk0 (by decide)
                  have hm1 := xe_mono _ _ _ _ _ _ _ _ _ hq2
                  have hm2 := xe_mono _ _ _ _ _ _ _ _ _ hx
                  exact w_callV hC F hj hv hk0 hal hb ht (met_of hw0 ih hj hq2 hcat.2) hm1 hls hcat.1 hb1 hb2 (by omega) (by omega) (by omega) (by omega) hd (k2_14 hk0) (ih _ _ _ _ _ _ _ _ hx p e R s m args below meth c Q b1 b2 F (by omega) (by omega) hls hR1 hR2 hR3 hR4 hret)
              · cases hx
      · split at hx
        · cases hx
        · rename_i h2 pc2 ls2 st2 hq
          have hm1 := xs_mono hq
          have hm2 := xe_mono _ _ _ _ _ _ _ _ _ hx
          exact xs_ok hC F hd hlen hr hpf (fetch_tg hf) (mna_idx hf hd hr) hq hb1 hb2 (by omega) (by omega) (ih _ _ _ _ _ _ _ _ hx p e R s m args below meth c Q b1 b2 F (by omega) (by omega) (hm1.2.2.trans hls) hR1 hR2 hR3 hR4 hret)
