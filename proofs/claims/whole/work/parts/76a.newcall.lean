/-! a call more -/
section
variable {K : Nat → pcell} {tb : Nat} {g g' g0 g1 : gS} {r r' r0 r1 r2 s' : rS} {x x' x1 x2 xb : xS} {h h' h1 : pheap} {d : Nat} {Q : Option Value → pheap → Prop} {a n k m i j b ca sv ob cm ou rz : Nat}
/-- states that differ in calls, messages and cells alone -/
def CLx (r' r : rS) : Prop := (∀ k, k ≠ 57 → k ≠ 81 → k ≠ 82 → k ≠ 84 → k ≠ 87 → r'.1 k = r.1 k) ∧ r'.2.1 = r.2.1 ∧ (∀ a, a ≠ 114 → a ≠ 115 → a ≠ 116 → a ≠ 117 → a ≠ 118 → a ≠ 119 → a ≠ 120 → a ≠ 121 → a ≠ 122 → a ≠ 123 → a ≠ 124 → a ≠ 125 → a ≠ 126 → a ≠ 129 → a ≠ 130 → a ≠ 131 → a ≠ 143 → a ≠ 144 → a ≠ 134 → a ≠ 135 → a ≠ 136 → a ≠ 137 → a ≠ 88 → a ≠ 89 → r'.2.2.1 a = r.2.2.1 a) ∧ ∀ a, a ≠ 87 → r'.2.2.2 a = r.2.2.2 a
def clE (r : rS) (i0 i1 i2 i3 i4 : Int32) (f0 f1 f2 f3 f4 f5 f6 f7 f8 f9 f10 f11 f12 f13 f14 f15 f16 f17 f18 f19 f20 f21 f22 f23 : Nat → Int32) (N : Nat → Int64) : rS := (upN (upN (upN (upN (upN (r.1) 57 i0) 81 i1) 82 i2) 84 i3) 87 i4, r.2.1, upN (upN (upN (upN (upN (upN (upN (upN (upN (upN (upN (upN (upN (upN (upN (upN (upN (upN (upN (upN (upN (upN (upN (upN (r.2.2.1) 114 f0) 115 f1) 116 f2) 117 f3) 118 f4) 119 f5) 120 f6) 121 f7) 122 f8) 123 f9) 124 f10) 125 f11) 126 f12) 129 f13) 130 f14) 131 f15) 143 f16) 144 f17) 134 f18) 135 f19) 136 f20) 137 f21) 88 f22) 89 f23, upN r.2.2.2 87 N)
theorem cl_eq (hm : CLx r' r) : r' = clE r ((r'.1 57)) ((r'.1 81)) ((r'.1 82)) ((r'.1 84)) ((r'.1 87)) ((r'.2.2.1 114)) ((r'.2.2.1 115)) ((r'.2.2.1 116)) ((r'.2.2.1 117)) ((r'.2.2.1 118)) ((r'.2.2.1 119)) ((r'.2.2.1 120)) ((r'.2.2.1 121)) ((r'.2.2.1 122)) ((r'.2.2.1 123)) ((r'.2.2.1 124)) ((r'.2.2.1 125)) ((r'.2.2.1 126)) ((r'.2.2.1 129)) ((r'.2.2.1 130)) ((r'.2.2.1 131)) ((r'.2.2.1 143)) ((r'.2.2.1 144)) ((r'.2.2.1 134)) ((r'.2.2.1 135)) ((r'.2.2.1 136)) ((r'.2.2.1 137)) ((r'.2.2.1 88)) ((r'.2.2.1 89)) ((r'.2.2.2 87)) := by
  refine Prod.ext (funext fun k => ?_) (Prod.ext hm.2.1 (Prod.ext (funext fun a => ?_) (funext fun a => ?_)))
  · show _ = (upN (upN (upN (upN (upN (r.1) 57 _) 81 _) 82 _) 84 _) 87 _) k
    by_cases e0 : k = 87
    · subst e0; rfl
    rw [upN_n _ _ e0]
    by_cases e1 : k = 84
    · subst e1; rfl
    rw [upN_n _ _ e1]
    by_cases e2 : k = 82
    · subst e2; rfl
    rw [upN_n _ _ e2]
    by_cases e3 : k = 81
    · subst e3; rfl
    rw [upN_n _ _ e3]
    by_cases e4 : k = 57
    · subst e4; rfl
    rw [upN_n _ _ e4]
    exact hm.1 k e4 e3 e2 e1 e0
  · show _ = (upN (upN (upN (upN (upN (upN (upN (upN (upN (upN (upN (upN (upN (upN (upN (upN (upN (upN (upN (upN (upN (upN (upN (upN (r.2.2.1) 114 _) 115 _) 116 _) 117 _) 118 _) 119 _) 120 _) 121 _) 122 _) 123 _) 124 _) 125 _) 126 _) 129 _) 130 _) 131 _) 143 _) 144 _) 134 _) 135 _) 136 _) 137 _) 88 _) 89 _) a
    by_cases e0 : a = 89
    · subst e0; rfl
    rw [upN_n _ _ e0]
    by_cases e1 : a = 88
    · subst e1; rfl
    rw [upN_n _ _ e1]
    by_cases e2 : a = 137
    · subst e2; rfl
    rw [upN_n _ _ e2]
    by_cases e3 : a = 136
    · subst e3; rfl
    rw [upN_n _ _ e3]
    by_cases e4 : a = 135
    · subst e4; rfl
    rw [upN_n _ _ e4]
    by_cases e5 : a = 134
    · subst e5; rfl
    rw [upN_n _ _ e5]
    by_cases e6 : a = 144
    · subst e6; rfl
    rw [upN_n _ _ e6]
    by_cases e7 : a = 143
    · subst e7; rfl
    rw [upN_n _ _ e7]
    by_cases e8 : a = 131
    · subst e8; rfl
    rw [upN_n _ _ e8]
    by_cases e9 : a = 130
    · subst e9; rfl
    rw [upN_n _ _ e9]
    by_cases e10 : a = 129
    · subst e10; rfl
    rw [upN_n _ _ e10]
    by_cases e11 : a = 126
    · subst e11; rfl
    rw [upN_n _ _ e11]
    by_cases e12 : a = 125
    · subst e12; rfl
    rw [upN_n _ _ e12]
    by_cases e13 : a = 124
    · subst e13; rfl
    rw [upN_n _ _ e13]
    by_cases e14 : a = 123
    · subst e14; rfl
    rw [upN_n _ _ e14]
    by_cases e15 : a = 122
    · subst e15; rfl
    rw [upN_n _ _ e15]
    by_cases e16 : a = 121
    · subst e16; rfl
    rw [upN_n _ _ e16]
    by_cases e17 : a = 120
    · subst e17; rfl
    rw [upN_n _ _ e17]
    by_cases e18 : a = 119
    · subst e18; rfl
    rw [upN_n _ _ e18]
    by_cases e19 : a = 118
    · subst e19; rfl
    rw [upN_n _ _ e19]
    by_cases e20 : a = 117
    · subst e20; rfl
    rw [upN_n _ _ e20]
    by_cases e21 : a = 116
    · subst e21; rfl
    rw [upN_n _ _ e21]
    by_cases e22 : a = 115
    · subst e22; rfl
    rw [upN_n _ _ e22]
    by_cases e23 : a = 114
    · subst e23; rfl
    rw [upN_n _ _ e23]
    exact hm.2.2.1 a e23 e22 e21 e20 e19 e18 e17 e16 e15 e14 e13 e12 e11 e10 e9 e8 e7 e6 e5 e4 e3 e2 e1 e0
  · show _ = (upN r.2.2.2 87 _) a
    by_cases e0 : a = 87
    · subst e0; rfl
    rw [upN_n _ _ e0]
    exact hm.2.2.2 a e0
def clG (g : gS) (n a b ca sv ob cm ou rz : Nat) : gS := (upN (upN g.1 0 (upN (g.1 0) 5 (n + 1))) 6 (upN (g.1 6) n a), g.2.1, g.2.2.1, upN g.2.2.2.1 a (14, n), g.2.2.2.2.1, upN (upN (upN (upN (upN (upN (upN (upN (upN (upN (upN (upN (upN (upN (g.2.2.2.2.2) 14 (upN ((g.2.2.2.2.2 14)) n ca)) 15 (upN ((g.2.2.2.2.2 15)) n sv)) 17 (upN ((g.2.2.2.2.2 17)) n ob)) 16 (upN ((g.2.2.2.2.2 16)) n cm)) 18 (upN ((g.2.2.2.2.2 18)) n ou)) 19 (upN ((g.2.2.2.2.2 19)) n b)) 20 (upN ((g.2.2.2.2.2 20)) n 0)) 21 (upN ((g.2.2.2.2.2 21)) n 0)) 22 (upN ((g.2.2.2.2.2 22)) n 0)) 33 (upN ((g.2.2.2.2.2 33)) n rz)) 34 (upN ((g.2.2.2.2.2 34)) n 0)) 32 (upN ((g.2.2.2.2.2 32)) n 0)) 31 (upN (upN ((g.2.2.2.2.2 31)) n 0) (60 + n) 0)) 30 (upN (upN ((g.2.2.2.2.2 30)) n 0) (60 + n) 0))
theorem clG_ro {c : Nat} (hc : c ≠ a) : (clG g n a b ca sv ob cm ou rz).2.2.2.1 c = g.2.2.2.1 c := upN_n _ _ hc
theorem clG_r0 : (clG g n a b ca sv ob cm ou rz).2.2.2.1 a = (14, n) := upN_s _ _ _
theorem clG_ca {j : Nat} (hj : j ≠ n) : (clG g n a b ca sv ob cm ou rz).2.2.2.2.2 14 j = (g.2.2.2.2.2 14) j := upN_n _ _ hj
theorem clG_can : (clG g n a b ca sv ob cm ou rz).2.2.2.2.2 14 n = ca := upN_s _ _ _
theorem clG_sv {j : Nat} (hj : j ≠ n) : (clG g n a b ca sv ob cm ou rz).2.2.2.2.2 15 j = (g.2.2.2.2.2 15) j := upN_n _ _ hj
theorem clG_svn : (clG g n a b ca sv ob cm ou rz).2.2.2.2.2 15 n = sv := upN_s _ _ _
theorem clG_ob {j : Nat} (hj : j ≠ n) : (clG g n a b ca sv ob cm ou rz).2.2.2.2.2 17 j = (g.2.2.2.2.2 17) j := upN_n _ _ hj
theorem clG_obn : (clG g n a b ca sv ob cm ou rz).2.2.2.2.2 17 n = ob := upN_s _ _ _
theorem clG_cm {j : Nat} (hj : j ≠ n) : (clG g n a b ca sv ob cm ou rz).2.2.2.2.2 16 j = (g.2.2.2.2.2 16) j := upN_n _ _ hj
theorem clG_cmn : (clG g n a b ca sv ob cm ou rz).2.2.2.2.2 16 n = cm := upN_s _ _ _
theorem clG_ou {j : Nat} (hj : j ≠ n) : (clG g n a b ca sv ob cm ou rz).2.2.2.2.2 18 j = (g.2.2.2.2.2 18) j := upN_n _ _ hj
theorem clG_oun : (clG g n a b ca sv ob cm ou rz).2.2.2.2.2 18 n = ou := upN_s _ _ _
theorem clG_rq {j : Nat} (hj : j ≠ n) : (clG g n a b ca sv ob cm ou rz).2.2.2.2.2 19 j = (g.2.2.2.2.2 19) j := upN_n _ _ hj
theorem clG_rqn : (clG g n a b ca sv ob cm ou rz).2.2.2.2.2 19 n = b := upN_s _ _ _
theorem clG_sh {j : Nat} (hj : j ≠ n) : (clG g n a b ca sv ob cm ou rz).2.2.2.2.2 20 j = (g.2.2.2.2.2 20) j := upN_n _ _ hj
theorem clG_shn : (clG g n a b ca sv ob cm ou rz).2.2.2.2.2 20 n = 0 := upN_s _ _ _
theorem clG_vl {j : Nat} (hj : j ≠ n) : (clG g n a b ca sv ob cm ou rz).2.2.2.2.2 21 j = (g.2.2.2.2.2 21) j := upN_n _ _ hj
theorem clG_vln : (clG g n a b ca sv ob cm ou rz).2.2.2.2.2 21 n = 0 := upN_s _ _ _
theorem clG_tr {j : Nat} (hj : j ≠ n) : (clG g n a b ca sv ob cm ou rz).2.2.2.2.2 22 j = (g.2.2.2.2.2 22) j := upN_n _ _ hj
theorem clG_trn : (clG g n a b ca sv ob cm ou rz).2.2.2.2.2 22 n = 0 := upN_s _ _ _
theorem clG_rz {j : Nat} (hj : j ≠ n) : (clG g n a b ca sv ob cm ou rz).2.2.2.2.2 33 j = (g.2.2.2.2.2 33) j := upN_n _ _ hj
theorem clG_rzn : (clG g n a b ca sv ob cm ou rz).2.2.2.2.2 33 n = rz := upN_s _ _ _
theorem clG_az {j : Nat} (hj : j ≠ n) : (clG g n a b ca sv ob cm ou rz).2.2.2.2.2 34 j = (g.2.2.2.2.2 34) j := upN_n _ _ hj
theorem clG_azn : (clG g n a b ca sv ob cm ou rz).2.2.2.2.2 34 n = 0 := upN_s _ _ _
theorem clG_tm {j : Nat} (hj : j ≠ n) : (clG g n a b ca sv ob cm ou rz).2.2.2.2.2 32 j = (g.2.2.2.2.2 32) j := upN_n _ _ hj
theorem clG_tmn : (clG g n a b ca sv ob cm ou rz).2.2.2.2.2 32 n = 0 := upN_s _ _ _
theorem clG_gbt {j : Nat} (hj : j ≠ n) (hj2 : j ≠ 60 + n) : (clG g n a b ca sv ob cm ou rz).2.2.2.2.2 31 j = (g.2.2.2.2.2 31) j := by
  show upN (upN ((g.2.2.2.2.2 31)) n 0) (60 + n) 0 j = _
  rw [upN_n _ _ hj2, upN_n _ _ hj]
theorem clG_gbt0 (hn : n < 60) : (clG g n a b ca sv ob cm ou rz).2.2.2.2.2 31 n = 0 := by
  show upN (upN ((g.2.2.2.2.2 31)) n 0) (60 + n) 0 n = _
  rw [upN_n _ _ (by omega), upN_s]
theorem clG_gbt1 : (clG g n a b ca sv ob cm ou rz).2.2.2.2.2 31 (60 + n) = 0 := upN_s _ _ _
theorem clG_gof {j : Nat} (hj : j ≠ n) (hj2 : j ≠ 60 + n) : (clG g n a b ca sv ob cm ou rz).2.2.2.2.2 30 j = (g.2.2.2.2.2 30) j := by
  show upN (upN ((g.2.2.2.2.2 30)) n 0) (60 + n) 0 j = _
  rw [upN_n _ _ hj2, upN_n _ _ hj]
theorem clG_gof0 (hn : n < 60) : (clG g n a b ca sv ob cm ou rz).2.2.2.2.2 30 n = 0 := by
  show upN (upN ((g.2.2.2.2.2 30)) n 0) (60 + n) 0 n = _
  rw [upN_n _ _ (by omega), upN_s]
theorem clG_gof1 : (clG g n a b ca sv ob cm ou rz).2.2.2.2.2 30 (60 + n) = 0 := upN_s _ _ _
theorem clG_cal {j : Nat} (hj : j ≠ n) : (clG g n a b ca sv ob cm ou rz).1 6 j = (g.1 6) j := upN_n _ _ hj
theorem clG_caln : (clG g n a b ca sv ob cm ou rz).1 6 n = a := upN_s _ _ _
end
