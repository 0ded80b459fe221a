section
variable {r v : rS} {ce Dn A L p n0 c : Nat} {s : Int32} {P G : Nat → Prop} {F : Nat → Int32} {l : List Nat}
theorem rel_tk (hr : REL P G Dn r v) : REL P G Dn (tk0 r ce s) v := by
  obtain ⟨⟨a1, a2, a3, a4, a5, a6⟩, b, c1, c2⟩ := hr
  refine ⟨⟨fun k q0 q1 q2 q3 q4 q5 q6 q7 => ?_, a2, fun a q0 q1 q2 q3 q4 q5 q6 q7 q8 q9 q10 q11 q12 => ?_, a4, a5, a6⟩, b, c1, c2⟩
  · refine Eq.trans ?_ (a1 k q0 q1 q2 q3 q4 q5 q6 q7)
    show (sI (sI r 87 0) 87 1).1 k = _
    rw [sI_n _ _ q3, sI_n _ _ q3]
  · refine Eq.trans ?_ (a3 a q0 q1 q2 q3 q4 q5 q6 q7 q8 q9 q10 q11 q12)
    show (sA (sA (sI r 87 0) 136 0 (nI ce)) 137 0 s).2.2.1 a = _
    rw [sA_a _ _ _ q3, sA_a _ _ _ q2]
    rfl
theorem rsi_tk (hr : RSi r A L F p n0 l) : RSi (tk0 r ce s) A L F p n0 l := hr
theorem smc_tk : SMc (tk0 r ce s) r c := ⟨rfl, rfl, fun _ _ => rfl⟩
theorem top_tk : (tk0 r ce s).1 87 = nI (0 + 1) ∧ (tk0 r ce s).2.2.1 136 0 = nI ce ∧ (tk0 r ce s).2.2.1 137 0 = s := ⟨rfl, rfl, rfl⟩
end
