/-! a cell of each role -/
section
variable {K : Nat → pcell} {g : gS} {r : rS} {x : xS} {h : pheap} {xb b : Nat} {c : pcell}
theorem cell_1 (ha : (g.2.2.2.1 b).1 = 1) (hc : cVal (g.2.1 b) c) : Cell g r xb b c := ⟨fun _ => hc, fun z => absurd (ha.symm.trans z) (by decide), fun z => absurd (ha.symm.trans z) (by decide), fun z => absurd (ha.symm.trans z) (by decide), fun z => absurd (ha.symm.trans z) (by decide), fun z => absurd (ha.symm.trans z) (by decide), fun z => absurd (ha.symm.trans z) (by decide), fun z => absurd (ha.symm.trans z) (by decide), fun z => absurd (ha.symm.trans z) (by decide), fun z => absurd (ha.symm.trans z) (by decide), fun z => absurd (ha.symm.trans z) (by decide), fun z => absurd (ha.symm.trans z) (by decide), fun z => absurd (ha.symm.trans z) (by decide), fun z => absurd (ha.symm.trans z) (by decide), fun z => absurd (ha.symm.trans z) (by decide), fun z => absurd (ha.symm.trans z) (by decide), fun z => absurd (ha.symm.trans z) (by decide), fun z => absurd (ha.symm.trans z) (by decide)⟩
theorem cell_2 (ha : (g.2.2.2.1 b).1 = 2) (hc : cRow 22 (g.2.2.1 b) c) : Cell g r xb b c := ⟨fun z => absurd (ha.symm.trans z) (by decide), fun _ => hc, fun z => absurd (ha.symm.trans z) (by decide), fun z => absurd (ha.symm.trans z) (by decide), fun z => absurd (ha.symm.trans z) (by decide), fun z => absurd (ha.symm.trans z) (by decide), fun z => absurd (ha.symm.trans z) (by decide), fun z => absurd (ha.symm.trans z) (by decide), fun z => absurd (ha.symm.trans z) (by decide), fun z => absurd (ha.symm.trans z) (by decide), fun z => absurd (ha.symm.trans z) (by decide), fun z => absurd (ha.symm.trans z) (by decide), fun z => absurd (ha.symm.trans z) (by decide), fun z => absurd (ha.symm.trans z) (by decide), fun z => absurd (ha.symm.trans z) (by decide), fun z => absurd (ha.symm.trans z) (by decide), fun z => absurd (ha.symm.trans z) (by decide), fun z => absurd (ha.symm.trans z) (by decide)⟩
theorem cell_3 (ha : (g.2.2.2.1 b).1 = 3) (hc : cRow 20 (g.2.2.1 b) c) : Cell g r xb b c := ⟨fun z => absurd (ha.symm.trans z) (by decide), fun z => absurd (ha.symm.trans z) (by decide), fun _ => hc, fun z => absurd (ha.symm.trans z) (by decide), fun z => absurd (ha.symm.trans z) (by decide), fun z => absurd (ha.symm.trans z) (by decide), fun z => absurd (ha.symm.trans z) (by decide), fun z => absurd (ha.symm.trans z) (by decide), fun z => absurd (ha.symm.trans z) (by decide), fun z => absurd (ha.symm.trans z) (by decide), fun z => absurd (ha.symm.trans z) (by decide), fun z => absurd (ha.symm.trans z) (by decide), fun z => absurd (ha.symm.trans z) (by decide), fun z => absurd (ha.symm.trans z) (by decide), fun z => absurd (ha.symm.trans z) (by decide), fun z => absurd (ha.symm.trans z) (by decide), fun z => absurd (ha.symm.trans z) (by decide), fun z => absurd (ha.symm.trans z) (by decide)⟩
theorem cell_4 (ha : (g.2.2.2.1 b).1 = 4) (hc : cEl (g.1 0 ((g.2.2.2.1 b).2 - 1)) (g.1 (g.2.2.2.1 b).2) c) : Cell g r xb b c := ⟨fun z => absurd (ha.symm.trans z) (by decide), fun z => absurd (ha.symm.trans z) (by decide), fun z => absurd (ha.symm.trans z) (by decide), fun _ => hc, fun z => absurd (ha.symm.trans z) (by decide), fun z => absurd (ha.symm.trans z) (by decide), fun z => absurd (ha.symm.trans z) (by decide), fun z => absurd (ha.symm.trans z) (by decide), fun z => absurd (ha.symm.trans z) (by decide), fun z => absurd (ha.symm.trans z) (by decide), fun z => absurd (ha.symm.trans z) (by decide), fun z => absurd (ha.symm.trans z) (by decide), fun z => absurd (ha.symm.trans z) (by decide), fun z => absurd (ha.symm.trans z) (by decide), fun z => absurd (ha.symm.trans z) (by decide), fun z => absurd (ha.symm.trans z) (by decide), fun z => absurd (ha.symm.trans z) (by decide), fun z => absurd (ha.symm.trans z) (by decide)⟩
theorem cell_5 (ha : (g.2.2.2.1 b).1 = 5) (hc : cNod b ((g.2.2.2.2.2 11) (g.2.2.2.1 b).2) c) : Cell g r xb b c := ⟨fun z => absurd (ha.symm.trans z) (by decide), fun z => absurd (ha.symm.trans z) (by decide), fun z => absurd (ha.symm.trans z) (by decide), fun z => absurd (ha.symm.trans z) (by decide), fun _ => hc, fun z => absurd (ha.symm.trans z) (by decide), fun z => absurd (ha.symm.trans z) (by decide), fun z => absurd (ha.symm.trans z) (by decide), fun z => absurd (ha.symm.trans z) (by decide), fun z => absurd (ha.symm.trans z) (by decide), fun z => absurd (ha.symm.trans z) (by decide), fun z => absurd (ha.symm.trans z) (by decide), fun z => absurd (ha.symm.trans z) (by decide), fun z => absurd (ha.symm.trans z) (by decide), fun z => absurd (ha.symm.trans z) (by decide), fun z => absurd (ha.symm.trans z) (by decide), fun z => absurd (ha.symm.trans z) (by decide), fun z => absurd (ha.symm.trans z) (by decide)⟩
theorem cell_6 (ha : (g.2.2.2.1 b).1 = 6) (hc : cNfl ((g.2.2.2.2.2 8) ((g.2.2.2.2.2 11) (g.2.2.2.1 b).2)) (fun k => (g.2.2.2.2.2 7) (6 * (g.2.2.2.1 b).2 + k)) c) : Cell g r xb b c := ⟨fun z => absurd (ha.symm.trans z) (by decide), fun z => absurd (ha.symm.trans z) (by decide), fun z => absurd (ha.symm.trans z) (by decide), fun z => absurd (ha.symm.trans z) (by decide), fun z => absurd (ha.symm.trans z) (by decide), fun _ => hc, fun z => absurd (ha.symm.trans z) (by decide), fun z => absurd (ha.symm.trans z) (by decide), fun z => absurd (ha.symm.trans z) (by decide), fun z => absurd (ha.symm.trans z) (by decide), fun z => absurd (ha.symm.trans z) (by decide), fun z => absurd (ha.symm.trans z) (by decide), fun z => absurd (ha.symm.trans z) (by decide), fun z => absurd (ha.symm.trans z) (by decide), fun z => absurd (ha.symm.trans z) (by decide), fun z => absurd (ha.symm.trans z) (by decide), fun z => absurd (ha.symm.trans z) (by decide), fun z => absurd (ha.symm.trans z) (by decide)⟩
theorem cell_7 (ha : (g.2.2.2.1 b).1 = 7) (hc : cFai b ((r.2.2.1 108) (g.2.2.2.1 b).2) ((r.2.2.1 109) (g.2.2.2.1 b).2) (if (g.2.2.2.2.2 24) (g.2.2.2.1 b).2 = 0 then 0 else (g.1 3) ((g.2.2.2.2.2 24) (g.2.2.2.1 b).2 - 1)) ((g.2.2.2.2.2 26) (g.2.2.2.1 b).2) c) : Cell g r xb b c := ⟨fun z => absurd (ha.symm.trans z) (by decide), fun z => absurd (ha.symm.trans z) (by decide), fun z => absurd (ha.symm.trans z) (by decide), fun z => absurd (ha.symm.trans z) (by decide), fun z => absurd (ha.symm.trans z) (by decide), fun z => absurd (ha.symm.trans z) (by decide), fun _ => hc, fun z => absurd (ha.symm.trans z) (by decide), fun z => absurd (ha.symm.trans z) (by decide), fun z => absurd (ha.symm.trans z) (by decide), fun z => absurd (ha.symm.trans z) (by decide), fun z => absurd (ha.symm.trans z) (by decide), fun z => absurd (ha.symm.trans z) (by decide), fun z => absurd (ha.symm.trans z) (by decide), fun z => absurd (ha.symm.trans z) (by decide), fun z => absurd (ha.symm.trans z) (by decide), fun z => absurd (ha.symm.trans z) (by decide), fun z => absurd (ha.symm.trans z) (by decide)⟩
theorem cell_8 (ha : (g.2.2.2.1 b).1 = 8) (hc : cFbs ((g.2.2.2.2.2 26) (g.2.2.2.1 b).2) (fun k => (g.1 3) ((g.2.2.2.2.2 25) (2 * (g.2.2.2.1 b).2 + k))) c) : Cell g r xb b c := ⟨fun z => absurd (ha.symm.trans z) (by decide), fun z => absurd (ha.symm.trans z) (by decide), fun z => absurd (ha.symm.trans z) (by decide), fun z => absurd (ha.symm.trans z) (by decide), fun z => absurd (ha.symm.trans z) (by decide), fun z => absurd (ha.symm.trans z) (by decide), fun z => absurd (ha.symm.trans z) (by decide), fun _ => hc, fun z => absurd (ha.symm.trans z) (by decide), fun z => absurd (ha.symm.trans z) (by decide), fun z => absurd (ha.symm.trans z) (by decide), fun z => absurd (ha.symm.trans z) (by decide), fun z => absurd (ha.symm.trans z) (by decide), fun z => absurd (ha.symm.trans z) (by decide), fun z => absurd (ha.symm.trans z) (by decide), fun z => absurd (ha.symm.trans z) (by decide), fun z => absurd (ha.symm.trans z) (by decide), fun z => absurd (ha.symm.trans z) (by decide)⟩
theorem cell_9 (ha : (g.2.2.2.1 b).1 = 9) (hc : cDsk b (g.2.2.2.1 b).2 ((r.2.2.1 93) (g.2.2.2.1 b).2) ((r.2.2.1 97) (g.2.2.2.1 b).2) ((r.2.2.1 98) (g.2.2.2.1 b).2) ((r.2.2.1 99) (g.2.2.2.1 b).2) c) : Cell g r xb b c := ⟨fun z => absurd (ha.symm.trans z) (by decide), fun z => absurd (ha.symm.trans z) (by decide), fun z => absurd (ha.symm.trans z) (by decide), fun z => absurd (ha.symm.trans z) (by decide), fun z => absurd (ha.symm.trans z) (by decide), fun z => absurd (ha.symm.trans z) (by decide), fun z => absurd (ha.symm.trans z) (by decide), fun z => absurd (ha.symm.trans z) (by decide), fun _ => hc, fun z => absurd (ha.symm.trans z) (by decide), fun z => absurd (ha.symm.trans z) (by decide), fun z => absurd (ha.symm.trans z) (by decide), fun z => absurd (ha.symm.trans z) (by decide), fun z => absurd (ha.symm.trans z) (by decide), fun z => absurd (ha.symm.trans z) (by decide), fun z => absurd (ha.symm.trans z) (by decide), fun z => absurd (ha.symm.trans z) (by decide), fun z => absurd (ha.symm.trans z) (by decide)⟩
theorem cell_10 (ha : (g.2.2.2.1 b).1 = 10) (hc : cInts 20 24 (fun k => (r.2.2.1 95) (24 * (g.2.2.2.1 b).2 + k)) c) : Cell g r xb b c := ⟨fun z => absurd (ha.symm.trans z) (by decide), fun z => absurd (ha.symm.trans z) (by decide), fun z => absurd (ha.symm.trans z) (by decide), fun z => absurd (ha.symm.trans z) (by decide), fun z => absurd (ha.symm.trans z) (by decide), fun z => absurd (ha.symm.trans z) (by decide), fun z => absurd (ha.symm.trans z) (by decide), fun z => absurd (ha.symm.trans z) (by decide), fun z => absurd (ha.symm.trans z) (by decide), fun _ => hc, fun z => absurd (ha.symm.trans z) (by decide), fun z => absurd (ha.symm.trans z) (by decide), fun z => absurd (ha.symm.trans z) (by decide), fun z => absurd (ha.symm.trans z) (by decide), fun z => absurd (ha.symm.trans z) (by decide), fun z => absurd (ha.symm.trans z) (by decide), fun z => absurd (ha.symm.trans z) (by decide), fun z => absurd (ha.symm.trans z) (by decide)⟩
theorem cell_11 (ha : (g.2.2.2.1 b).1 = 11) (hc : cInts 23 9 (fun k => if (r.2.2.1 94) (9 * (g.2.2.2.1 b).2 + k) = 0 then 1 else 0) c) : Cell g r xb b c := ⟨fun z => absurd (ha.symm.trans z) (by decide), fun z => absurd (ha.symm.trans z) (by decide), fun z => absurd (ha.symm.trans z) (by decide), fun z => absurd (ha.symm.trans z) (by decide), fun z => absurd (ha.symm.trans z) (by decide), fun z => absurd (ha.symm.trans z) (by decide), fun z => absurd (ha.symm.trans z) (by decide), fun z => absurd (ha.symm.trans z) (by decide), fun z => absurd (ha.symm.trans z) (by decide), fun z => absurd (ha.symm.trans z) (by decide), fun _ => hc, fun z => absurd (ha.symm.trans z) (by decide), fun z => absurd (ha.symm.trans z) (by decide), fun z => absurd (ha.symm.trans z) (by decide), fun z => absurd (ha.symm.trans z) (by decide), fun z => absurd (ha.symm.trans z) (by decide), fun z => absurd (ha.symm.trans z) (by decide), fun z => absurd (ha.symm.trans z) (by decide)⟩
theorem cell_12 (ha : (g.2.2.2.1 b).1 = 12) (hc : cInts 20 4 (fun k => (r.2.2.1 96) (4 * (g.2.2.2.1 b).2 + k)) c) : Cell g r xb b c := ⟨fun z => absurd (ha.symm.trans z) (by decide), fun z => absurd (ha.symm.trans z) (by decide), fun z => absurd (ha.symm.trans z) (by decide), fun z => absurd (ha.symm.trans z) (by decide), fun z => absurd (ha.symm.trans z) (by decide), fun z => absurd (ha.symm.trans z) (by decide), fun z => absurd (ha.symm.trans z) (by decide), fun z => absurd (ha.symm.trans z) (by decide), fun z => absurd (ha.symm.trans z) (by decide), fun z => absurd (ha.symm.trans z) (by decide), fun z => absurd (ha.symm.trans z) (by decide), fun _ => hc, fun z => absurd (ha.symm.trans z) (by decide), fun z => absurd (ha.symm.trans z) (by decide), fun z => absurd (ha.symm.trans z) (by decide), fun z => absurd (ha.symm.trans z) (by decide), fun z => absurd (ha.symm.trans z) (by decide), fun z => absurd (ha.symm.trans z) (by decide)⟩
theorem cell_13 (ha : (g.2.2.2.1 b).1 = 13) (hc : cThg (g.2.2.2.1 b).2 ((g.1 4) ((g.2.2.2.2.2 12) (g.2.2.2.1 b).2)) ((g.2.2.2.2.2 13) (g.2.2.2.1 b).2) ((r.2.2.1 102) (g.2.2.2.1 b).2) ((r.2.2.1 103) (g.2.2.2.1 b).2) ((r.2.2.1 104) (g.2.2.2.1 b).2) ((r.2.2.2 106) (g.2.2.2.1 b).2) ((r.2.2.1 107) (g.2.2.2.1 b).2) ((r.2.2.1 105) (g.2.2.2.1 b).2) c) : Cell g r xb b c := ⟨fun z => absurd (ha.symm.trans z) (by decide), fun z => absurd (ha.symm.trans z) (by decide), fun z => absurd (ha.symm.trans z) (by decide), fun z => absurd (ha.symm.trans z) (by decide), fun z => absurd (ha.symm.trans z) (by decide), fun z => absurd (ha.symm.trans z) (by decide), fun z => absurd (ha.symm.trans z) (by decide), fun z => absurd (ha.symm.trans z) (by decide), fun z => absurd (ha.symm.trans z) (by decide), fun z => absurd (ha.symm.trans z) (by decide), fun z => absurd (ha.symm.trans z) (by decide), fun z => absurd (ha.symm.trans z) (by decide), fun _ => hc, fun z => absurd (ha.symm.trans z) (by decide), fun z => absurd (ha.symm.trans z) (by decide), fun z => absurd (ha.symm.trans z) (by decide), fun z => absurd (ha.symm.trans z) (by decide), fun z => absurd (ha.symm.trans z) (by decide)⟩
theorem cell_14 (ha : (g.2.2.2.1 b).1 = 14) (hc : cCal (g.2.2.2.1 b).2 ((g.1 4) ((g.2.2.2.2.2 14) (g.2.2.2.1 b).2)) ((g.1 4) ((g.2.2.2.2.2 15) (g.2.2.2.1 b).2)) (if (g.2.2.2.2.2 17) (g.2.2.2.1 b).2 = 0 then 0 else (g.1 5) ((g.2.2.2.2.2 17) (g.2.2.2.1 b).2 - 1)) ((g.2.2.2.2.2 16) (g.2.2.2.1 b).2) (if (g.2.2.2.2.2 18) (g.2.2.2.1 b).2 = 0 then 0 else (g.1 6) ((g.2.2.2.2.2 18) (g.2.2.2.1 b).2 - 1)) ((r.2.2.1 122) (g.2.2.2.1 b).2) ((r.2.2.1 118) (g.2.2.2.1 b).2) ((r.2.2.1 121) (g.2.2.2.1 b).2) ((r.2.2.1 125) (g.2.2.2.1 b).2) (if (r.2.2.1 130) (g.2.2.2.1 b).2 = 0 then 0 else (r.2.2.1 129) (g.2.2.2.1 b).2) ((g.2.2.2.2.2 19) (g.2.2.2.1 b).2) ((g.2.2.2.2.2 20) (g.2.2.2.1 b).2) ((g.2.2.2.2.2 21) (g.2.2.2.1 b).2) ((g.2.2.2.2.2 22) (g.2.2.2.1 b).2) ((g.2.2.2.2.2 23) (g.2.2.2.1 b).2) ((g.2.2.2.2.2 23) (60 + (g.2.2.2.1 b).2)) c) : Cell g r xb b c := ⟨fun z => absurd (ha.symm.trans z) (by decide), fun z => absurd (ha.symm.trans z) (by decide), fun z => absurd (ha.symm.trans z) (by decide), fun z => absurd (ha.symm.trans z) (by decide), fun z => absurd (ha.symm.trans z) (by decide), fun z => absurd (ha.symm.trans z) (by decide), fun z => absurd (ha.symm.trans z) (by decide), fun z => absurd (ha.symm.trans z) (by decide), fun z => absurd (ha.symm.trans z) (by decide), fun z => absurd (ha.symm.trans z) (by decide), fun z => absurd (ha.symm.trans z) (by decide), fun z => absurd (ha.symm.trans z) (by decide), fun z => absurd (ha.symm.trans z) (by decide), fun _ => hc, fun z => absurd (ha.symm.trans z) (by decide), fun z => absurd (ha.symm.trans z) (by decide), fun z => absurd (ha.symm.trans z) (by decide), fun z => absurd (ha.symm.trans z) (by decide)⟩
theorem cell_15 (ha : (g.2.2.2.1 b).1 = 15) (hc : cInc b ((g.2.2.2.2.2 30) (g.2.2.2.1 b).2) ((g.2.2.2.2.2 31) (g.2.2.2.1 b).2) (fun p => (g.2.2.2.2.2 29) (10 * (g.2.2.2.1 b).2 + p)) c) : Cell g r xb b c := ⟨fun z => absurd (ha.symm.trans z) (by decide), fun z => absurd (ha.symm.trans z) (by decide), fun z => absurd (ha.symm.trans z) (by decide), fun z => absurd (ha.symm.trans z) (by decide), fun z => absurd (ha.symm.trans z) (by decide), fun z => absurd (ha.symm.trans z) (by decide), fun z => absurd (ha.symm.trans z) (by decide), fun z => absurd (ha.symm.trans z) (by decide), fun z => absurd (ha.symm.trans z) (by decide), fun z => absurd (ha.symm.trans z) (by decide), fun z => absurd (ha.symm.trans z) (by decide), fun z => absurd (ha.symm.trans z) (by decide), fun z => absurd (ha.symm.trans z) (by decide), fun z => absurd (ha.symm.trans z) (by decide), fun _ => hc, fun z => absurd (ha.symm.trans z) (by decide), fun z => absurd (ha.symm.trans z) (by decide), fun z => absurd (ha.symm.trans z) (by decide)⟩
theorem cell_16 (ha : (g.2.2.2.1 b).1 = 16) (hc : cInts 23 10 (fun p => if bt ((g.2.2.2.2.2 31) (g.2.2.2.1 b).2) p = true then 1 else 0) c) : Cell g r xb b c := ⟨fun z => absurd (ha.symm.trans z) (by decide), fun z => absurd (ha.symm.trans z) (by decide), fun z => absurd (ha.symm.trans z) (by decide), fun z => absurd (ha.symm.trans z) (by decide), fun z => absurd (ha.symm.trans z) (by decide), fun z => absurd (ha.symm.trans z) (by decide), fun z => absurd (ha.symm.trans z) (by decide), fun z => absurd (ha.symm.trans z) (by decide), fun z => absurd (ha.symm.trans z) (by decide), fun z => absurd (ha.symm.trans z) (by decide), fun z => absurd (ha.symm.trans z) (by decide), fun z => absurd (ha.symm.trans z) (by decide), fun z => absurd (ha.symm.trans z) (by decide), fun z => absurd (ha.symm.trans z) (by decide), fun z => absurd (ha.symm.trans z) (by decide), fun _ => hc, fun z => absurd (ha.symm.trans z) (by decide), fun z => absurd (ha.symm.trans z) (by decide)⟩
theorem cell_17 (ha : (g.2.2.2.1 b).1 = 17) (hc : cIby ((g.2.2.2.2.2 31) (g.2.2.2.1 b).2) (fun p => (g.2.2.2.2.2 29) (10 * (g.2.2.2.1 b).2 + p)) (fun k => (r.2.2.1 141) (240 * (g.2.2.2.1 b).2 + k)) c) : Cell g r xb b c := ⟨fun z => absurd (ha.symm.trans z) (by decide), fun z => absurd (ha.symm.trans z) (by decide), fun z => absurd (ha.symm.trans z) (by decide), fun z => absurd (ha.symm.trans z) (by decide), fun z => absurd (ha.symm.trans z) (by decide), fun z => absurd (ha.symm.trans z) (by decide), fun z => absurd (ha.symm.trans z) (by decide), fun z => absurd (ha.symm.trans z) (by decide), fun z => absurd (ha.symm.trans z) (by decide), fun z => absurd (ha.symm.trans z) (by decide), fun z => absurd (ha.symm.trans z) (by decide), fun z => absurd (ha.symm.trans z) (by decide), fun z => absurd (ha.symm.trans z) (by decide), fun z => absurd (ha.symm.trans z) (by decide), fun z => absurd (ha.symm.trans z) (by decide), fun z => absurd (ha.symm.trans z) (by decide), fun _ => hc, fun z => absurd (ha.symm.trans z) (by decide)⟩
theorem cell_18 (ha : (g.2.2.2.1 b).1 = 18) (hc : cBk xb (g.2.2.2.2.1 1) (g.2.2.2.2.1 2) (g.2.2.2.2.1 3) ((g.2.2.2.2.2 8)) ((g.2.2.2.2.2 9)) ((g.2.2.2.2.2 10)) ((r.2.2.1 76)) ((r.2.2.1 80)) ((r.2.2.1 84)) ((r.2.2.1 86)) (g.2.2.2.1 b).2 c) : Cell g r xb b c := ⟨fun z => absurd (ha.symm.trans z) (by decide), fun z => absurd (ha.symm.trans z) (by decide), fun z => absurd (ha.symm.trans z) (by decide), fun z => absurd (ha.symm.trans z) (by decide), fun z => absurd (ha.symm.trans z) (by decide), fun z => absurd (ha.symm.trans z) (by decide), fun z => absurd (ha.symm.trans z) (by decide), fun z => absurd (ha.symm.trans z) (by decide), fun z => absurd (ha.symm.trans z) (by decide), fun z => absurd (ha.symm.trans z) (by decide), fun z => absurd (ha.symm.trans z) (by decide), fun z => absurd (ha.symm.trans z) (by decide), fun z => absurd (ha.symm.trans z) (by decide), fun z => absurd (ha.symm.trans z) (by decide), fun z => absurd (ha.symm.trans z) (by decide), fun z => absurd (ha.symm.trans z) (by decide), fun z => absurd (ha.symm.trans z) (by decide), fun _ => hc⟩
theorem cell_0 (ha : (g.2.2.2.1 b).1 = 0) : Cell g r xb b c := ⟨fun z => absurd (ha.symm.trans z) (by decide), fun z => absurd (ha.symm.trans z) (by decide), fun z => absurd (ha.symm.trans z) (by decide), fun z => absurd (ha.symm.trans z) (by decide), fun z => absurd (ha.symm.trans z) (by decide), fun z => absurd (ha.symm.trans z) (by decide), fun z => absurd (ha.symm.trans z) (by decide), fun z => absurd (ha.symm.trans z) (by decide), fun z => absurd (ha.symm.trans z) (by decide), fun z => absurd (ha.symm.trans z) (by decide), fun z => absurd (ha.symm.trans z) (by decide), fun z => absurd (ha.symm.trans z) (by decide), fun z => absurd (ha.symm.trans z) (by decide), fun z => absurd (ha.symm.trans z) (by decide), fun z => absurd (ha.symm.trans z) (by decide), fun z => absurd (ha.symm.trans z) (by decide), fun z => absurd (ha.symm.trans z) (by decide), fun z => absurd (ha.symm.trans z) (by decide)⟩
/-- where the cell of a role is -/
def loc (g : gS) (x2 : Nat → Nat) (c : Nat × Nat) : Nat :=
  if c.1 = 4 then x2 c.2 else if c.1 = 5 then (g.1 2) c.2 else if c.1 = 6 then (g.1 2) c.2 + 1 else if c.1 = 7 then (g.1 3) c.2 else if c.1 = 8 then (g.1 3) c.2 + 1 else
  if c.1 = 9 then (g.1 4) c.2 else if c.1 = 10 then (g.1 4) c.2 + 1 else if c.1 = 11 then (g.1 4) c.2 + 2 else if c.1 = 12 then (g.1 4) c.2 + 3 else if c.1 = 13 then (g.1 5) c.2 else if c.1 = 14 then (g.1 6) c.2 else
  if c.1 = 15 then (g.2.2.2.2.2 23) c.2 else if c.1 = 16 then (g.2.2.2.2.2 23) c.2 + 1 else if c.1 = 17 then (g.2.2.2.2.2 23) c.2 + 2 else x2 0 + c.2
theorem ref_loc {x2 : Nat → Nat} {p : Nat} {c : Nat × Nat} (hr : Ref0 g x2 p c) (h4 : 4 ≤ c.1) : p = loc g x2 c := by
  rcases hr with ⟨i, -, (⟨rfl, rfl⟩ | ⟨rfl, rfl⟩ | ⟨rfl, rfl⟩ | ⟨rfl, rfl⟩)⟩ | ⟨i, -, rfl, rfl⟩ | ⟨i, -, (⟨rfl, rfl⟩ | ⟨rfl, rfl⟩ | ⟨k, -, rfl, rfl⟩)⟩ | ⟨i, -, (⟨rfl, rfl⟩ | ⟨rfl, rfl⟩)⟩ | ⟨k, -, rfl, rfl⟩ | ⟨k, -, (⟨rfl, rfl⟩ | ⟨-, rfl, rfl⟩ | ⟨-, rfl, rfl⟩ | ⟨-, rfl, rfl⟩ | ⟨-, rfl, rfl⟩)⟩ | ⟨k, -, -, (⟨rfl, rfl⟩ | ⟨rfl, rfl⟩ | ⟨rfl, rfl⟩)⟩ | ⟨q, -, -, -, rfl, rfl⟩ | ⟨j, -, -, rfl, rfl⟩
  all_goals first
    | rfl
    | exact absurd h4 (by decide)
theorem uniq {x2 : Nat → Nat} {n : Nat} (pf : PF g x2 n) {a b : Nat} {c : Nat × Nat} (ha : g.2.2.2.1 a = c) (hb : g.2.2.2.1 b = c) (h4 : 4 ≤ c.1) : b = a := by
  have h1 := pf.2.2 a (by rw [ha]; exact h4)
  have h2 := pf.2.2 b (by rw [hb]; exact h4)
  rw [ha] at h1
  rw [hb] at h2
  rw [ref_loc h1 h4, ref_loc h2 h4]
theorem lo_set {a k : Nat} {v : Value} (hl : Lo K h) (ha : 146 ≤ a) : Lo K (hset h a k v) := fun b hb => by rw [hs_o _ _ (by omega)]; exact hl b hb
theorem lo_new {t n : Nat} {f : Nat → Value} (hl : Lo K h) (hh : 146 ≤ h.1) : Lo K (hnew h t n f) := fun b hb => by rw [hn_o _ _ _ (by omega)]; exact hl b hb
theorem bk_set {a k : Nat} {v : Value} (hl : BK7 g r x h) (ha : 146 ≤ a) : BK7 g r x (hset h a k v) := by
  rcases hl with ⟨h1, h2⟩ | h1
  · refine Or.inl ⟨h1, fun j hj => ?_⟩
    rw [hs_o _ _ (by omega)]
    exact h2 j hj
  · exact Or.inr h1
theorem bk_new {t n : Nat} {f : Nat → Value} (hl : BK7 g r x h) (hh : 146 ≤ h.1) : BK7 g r x (hnew h t n f) := by
  rcases hl with ⟨h1, h2⟩ | h1
  · refine Or.inl ⟨h1, fun j hj => ?_⟩
    rw [hn_o _ _ _ (by omega)]
    exact h2 j hj
  · exact Or.inr h1
/-- a new cell is nothing's yet -/
theorem sim_new (hs : Sim K g r x h) (t n : Nat) (f : Nat → Value) : Sim K g r x (hnew h t n f) := by
  obtain ⟨⟨h1, h2, h3, h4⟩, pf, hc, bk, s⟩ := hs
  refine ⟨⟨by rw [hn_1]; omega, h2, lo_new h3 h1, fun b hb => h4 b (by rw [hn_1] at hb; omega)⟩, ⟨fun p c hp => ?_, fun a z y => ?_, pf.2.2⟩, fun b b1 b2 => ?_, bk_new bk h1, s⟩
  · obtain ⟨q1, q2, q3⟩ := pf.1 p c hp
    exact ⟨q1, by rw [hn_1]; omega, q3⟩
  · obtain ⟨q1, q2, q3⟩ := pf.2.1 a z y
    exact ⟨q1, by rw [hn_1]; omega, q3⟩
  · by_cases hb : b = h.1
    · subst hb
      exact cell_0 (by rw [h4 h.1 (Or.inl (Nat.le_refl _))])
    · rw [hn_1] at b2
      rw [hn_o _ _ _ hb]
      exact hc b b1 (by omega)
theorem sim_junk (hs : Sim K g r x h) {a : Nat} (ha : g.2.2.2.1 a = (0, 0)) (h146 : 146 ≤ a) (k : Nat) (v : Value) : Sim K g r x (hset h a k v) := by
  obtain ⟨⟨h1, h2, h3, h4⟩, pf, hc, bk, s⟩ := hs
  refine ⟨⟨h1, h2, lo_set h3 h146, h4⟩, pf, fun b b1 b2 => ?_, bk_set bk h146, s⟩
  by_cases hb : b = a
  · subst hb
    exact cell_0 (by rw [ha])
  · rw [hs_o _ _ hb]
    exact hc b b1 b2
theorem sim_146 (hs : Sim K g r x h) : 146 ≤ h.1 := hs.1.1
theorem sim_low (hs : Sim K g r x h) {b : Nat} (hb : b < 146) : g.2.2.2.1 b = (0, 0) := hs.1.2.2.2 b (Or.inr hb)
theorem sim_top (hs : Sim K g r x h) {b : Nat} (hb : h.1 ≤ b) : g.2.2.2.1 b = (0, 0) := hs.1.2.2.2 b (Or.inl hb)
theorem cInts_c {t n : Nat} {f f' : Nat → Int32} (hf : ∀ k, k < n → f' k = f k) (hc : cInts t n f c) : cInts t n f' c := ⟨hc.1, hc.2.1, fun k hk => by rw [hc.2.2 k hk, hf k hk]⟩
/-- a place of the class's fixed part that nothing speaks of -/
def scr (a k : Nat) : Prop := a = 26 ∨ 70 ≤ a ∨ (a = 25 ∧ k = 3) ∨ (19 ≤ a ∧ a ≤ 24 ∧ k = 0)
theorem tI_ne (x : xS) {a k b j : Nat} (v : Int32) (h : b ≠ a ∨ j ≠ k) : (tI x a k v).1 b j = x.1 b j := by
  by_cases hb : b = a
  · subst hb
    exact tI_k x b v (by omega)
  · rw [tI_a x k v hb]
theorem sim_scr (hs : Sim K g r x h) {a k : Nat} (ha : scr a k) (v : Int32) : Sim K g r (tI x a k v) h := by
  unfold scr at ha
  obtain ⟨h1, pf, hc, bk, vr, kp, ⟨f1, f2, f3, f4⟩, fl, ⟨w1, w2, w3, w5, w4⟩, ⟨x1, x2, x3, x4⟩⟩ := hs
  refine ⟨h1, pf, hc, bk, vr, kp, ⟨?_, fun k hk => ?_, ?_, fun k hk => ?_⟩, fun q q1 q2 => ⟨?_, (fl q q1 q2).2⟩, ⟨?_, fun i hi => ⟨?_, (w2 i hi).2⟩, w3, w5, fun i hi => ⟨?_, fun k hk => ?_⟩⟩, ⟨?_, ?_, ?_, ?_⟩⟩
  · rw [tI_ne _ _ (by omega)]; exact f1
  · rw [tI_ne _ _ (by omega)]; exact f2 k hk
  · rw [tI_ne _ _ (by omega)]; exact f3
  · rw [tI_ne _ _ (by omega)]; exact f4 k hk
  · rw [tI_ne _ _ (by omega)]; exact (fl q q1 q2).1
  · rw [tI_ne _ _ (by omega)]; exact w1
  · rw [tI_ne _ _ (by omega)]; exact (w2 i hi).1
  · rw [tI_ne _ _ (by omega)]; exact (w4 i hi).1
  · have := (w2 i (by omega)).2
    rw [tI_ne _ _ (by omega)]; exact (w4 i hi).2 k hk
  · rw [tI_ne _ _ (by omega)]; exact x1
  · rw [tI_ne _ _ (by omega)]; exact x2
  · rw [tI_ne _ _ (by omega)]; exact x3
  · rw [tI_ne _ _ (by omega)]; exact x4
end
/-! one number of a cell -/
section
variable {K : Nat → pcell} {g : gS} {r : rS} {x : xS} {h : pheap}
theorem sA_k (r : rS) {a b i j : Nat} (v : Int32) (h : b ≠ a ∨ j ≠ i) : (sA r a i v).2.2.1 b j = r.2.2.1 b j := by
  unfold sA
  dsimp only
  by_cases hb : b = a
  · subst hb
    rw [upN_s, upN_n _ _ (by omega)]
  · rw [upN_n _ _ hb]
theorem sL_s (r : rS) (a i : Nat) (v : Int64) : (sL r a i v).2.2.2 a i = v := by unfold sL; dsimp only; rw [upN_s, upN_s]
theorem sL_k (r : rS) {a b i j : Nat} (v : Int64) (h : b ≠ a ∨ j ≠ i) : (sL r a i v).2.2.2 b j = r.2.2.2 b j := by
  unfold sL
  dsimp only
  by_cases hb : b = a
  · subst hb
    rw [upN_s, upN_n _ _ (by omega)]
  · rw [upN_n _ _ hb]
theorem op_age (hs : Sim K g r x h) {i : Nat} (hi : i < (g.1 0 3)) (v : Int32) : Sim K g (sA r 93 i v) x (hset h ((g.1 4) i) 1 (.int v)) := by
  obtain ⟨a1, a2, a3, a4⟩ := sim_cell hs (ref_d0 hi)
  obtain ⟨⟨h1, h2, h3, h4⟩, pf, hc, bk, s⟩ := hs
  refine ⟨⟨h1, h2, lo_set h3 a1, h4⟩, pf, fun b b1 b2 => ?_, bk_set bk a1, s⟩
  by_cases hb : b = (g.1 4) i
  · subst hb
    rw [hs_s]
    obtain ⟨c1, c2, c3, c4, c5, c6, c7, c8, c9, c10, c11, c12, c13, c14, c15, c16, c17, c18⟩ := a4
    refine cell_9 (by rw [a3]) ?_
    have c := c9 (by rw [a3])
    rw [a3] at c ⊢
    rw [sA_s]
    obtain ⟨q, q0, q1, q2, q3, q4, q5, q6, q7⟩ := c
    exact ⟨q, q0, rfl, q2, q3, q4, q5, q6, q7⟩
  · rw [hs_o _ _ hb]
    obtain ⟨c1, c2, c3, c4, c5, c6, c7, c8, c9, c10, c11, c12, c13, c14, c15, c16, c17, c18⟩ := hc b b1 b2
    refine ⟨c1, c2, c3, c4, c5, c6, c7, c8, fun z => ?_, c10, c11, c12, c13, c14, c15, c16, c17, c18⟩
    have hj : (g.2.2.2.1 b).2 ≠ i := fun q => hb (uniq pf a3 (Prod.ext z q) (Nat.le_of_ble_eq_true rfl))
    have c := c9 z
    rw [sA_k (b := 93) _ _ (Or.inr hj)]
    exact c
theorem op_sent (hs : Sim K g r x h) {i : Nat} (hi : i < (g.1 0 3)) (v : Int32) : Sim K g (sA r 97 i v) x (hset h ((g.1 4) i) 2 (.int v)) := by
  obtain ⟨a1, a2, a3, a4⟩ := sim_cell hs (ref_d0 hi)
  obtain ⟨⟨h1, h2, h3, h4⟩, pf, hc, bk, s⟩ := hs
  refine ⟨⟨h1, h2, lo_set h3 a1, h4⟩, pf, fun b b1 b2 => ?_, bk_set bk a1, s⟩
  by_cases hb : b = (g.1 4) i
  · subst hb
    rw [hs_s]
    obtain ⟨c1, c2, c3, c4, c5, c6, c7, c8, c9, c10, c11, c12, c13, c14, c15, c16, c17, c18⟩ := a4
    refine cell_9 (by rw [a3]) ?_
    have c := c9 (by rw [a3])
    rw [a3] at c ⊢
    rw [sA_s]
    obtain ⟨q, q0, q1, q2, q3, q4, q5, q6, q7⟩ := c
    exact ⟨q, q0, q1, rfl, q3, q4, q5, q6, q7⟩
  · rw [hs_o _ _ hb]
    obtain ⟨c1, c2, c3, c4, c5, c6, c7, c8, c9, c10, c11, c12, c13, c14, c15, c16, c17, c18⟩ := hc b b1 b2
    refine ⟨c1, c2, c3, c4, c5, c6, c7, c8, fun z => ?_, c10, c11, c12, c13, c14, c15, c16, c17, c18⟩
    have hj : (g.2.2.2.1 b).2 ≠ i := fun q => hb (uniq pf a3 (Prod.ext z q) (Nat.le_of_ble_eq_true rfl))
    have c := c9 z
    rw [sA_k (b := 97) _ _ (Or.inr hj)]
    exact c
theorem op_again (hs : Sim K g r x h) {i : Nat} (hi : i < (g.1 0 3)) (v : Int32) : Sim K g (sA r 98 i v) x (hset h ((g.1 4) i) 3 (.int v)) := by
  obtain ⟨a1, a2, a3, a4⟩ := sim_cell hs (ref_d0 hi)
  obtain ⟨⟨h1, h2, h3, h4⟩, pf, hc, bk, s⟩ := hs
  refine ⟨⟨h1, h2, lo_set h3 a1, h4⟩, pf, fun b b1 b2 => ?_, bk_set bk a1, s⟩
  by_cases hb : b = (g.1 4) i
  · subst hb
    rw [hs_s]
    obtain ⟨c1, c2, c3, c4, c5, c6, c7, c8, c9, c10, c11, c12, c13, c14, c15, c16, c17, c18⟩ := a4
    refine cell_9 (by rw [a3]) ?_
    have c := c9 (by rw [a3])
    rw [a3] at c ⊢
    rw [sA_s]
    obtain ⟨q, q0, q1, q2, q3, q4, q5, q6, q7⟩ := c
    exact ⟨q, q0, q1, q2, rfl, q4, q5, q6, q7⟩
  · rw [hs_o _ _ hb]
    obtain ⟨c1, c2, c3, c4, c5, c6, c7, c8, c9, c10, c11, c12, c13, c14, c15, c16, c17, c18⟩ := hc b b1 b2
    refine ⟨c1, c2, c3, c4, c5, c6, c7, c8, fun z => ?_, c10, c11, c12, c13, c14, c15, c16, c17, c18⟩
    have hj : (g.2.2.2.1 b).2 ≠ i := fun q => hb (uniq pf a3 (Prod.ext z q) (Nat.le_of_ble_eq_true rfl))
    have c := c9 z
    rw [sA_k (b := 98) _ _ (Or.inr hj)]
    exact c
theorem op_took (hs : Sim K g r x h) {i : Nat} (hi : i < (g.1 0 3)) (v : Int32) : Sim K g (sA r 99 i v) x (hset h ((g.1 4) i) 4 (.int v)) := by
  obtain ⟨a1, a2, a3, a4⟩ := sim_cell hs (ref_d0 hi)
  obtain ⟨⟨h1, h2, h3, h4⟩, pf, hc, bk, s⟩ := hs
  refine ⟨⟨h1, h2, lo_set h3 a1, h4⟩, pf, fun b b1 b2 => ?_, bk_set bk a1, s⟩
  by_cases hb : b = (g.1 4) i
  · subst hb
    rw [hs_s]
    obtain ⟨c1, c2, c3, c4, c5, c6, c7, c8, c9, c10, c11, c12, c13, c14, c15, c16, c17, c18⟩ := a4
    refine cell_9 (by rw [a3]) ?_
    have c := c9 (by rw [a3])
    rw [a3] at c ⊢
    rw [sA_s]
    obtain ⟨q, q0, q1, q2, q3, q4, q5, q6, q7⟩ := c
    exact ⟨q, q0, q1, q2, q3, rfl, q5, q6, q7⟩
  · rw [hs_o _ _ hb]
    obtain ⟨c1, c2, c3, c4, c5, c6, c7, c8, c9, c10, c11, c12, c13, c14, c15, c16, c17, c18⟩ := hc b b1 b2
    refine ⟨c1, c2, c3, c4, c5, c6, c7, c8, fun z => ?_, c10, c11, c12, c13, c14, c15, c16, c17, c18⟩
    have hj : (g.2.2.2.1 b).2 ≠ i := fun q => hb (uniq pf a3 (Prod.ext z q) (Nat.le_of_ble_eq_true rfl))
    have c := c9 z
    rw [sA_k (b := 99) _ _ (Or.inr hj)]
    exact c
theorem op_total (hs : Sim K g r x h) {i : Nat} (hi : i < (g.1 0 4)) (v : Int64) : Sim K g (sL r 106 i v) x (hset h ((g.1 5) i) 6 (.long v)) := by
  obtain ⟨a1, a2, a3, a4⟩ := sim_cell hs (ref_thg hi)
  obtain ⟨⟨h1, h2, h3, h4⟩, pf, hc, bk, s⟩ := hs
  refine ⟨⟨h1, h2, lo_set h3 a1, h4⟩, pf, fun b b1 b2 => ?_, bk_set bk a1, s⟩
  by_cases hb : b = (g.1 5) i
  · subst hb
    rw [hs_s]
    obtain ⟨c1, c2, c3, c4, c5, c6, c7, c8, c9, c10, c11, c12, c13, c14, c15, c16, c17, c18⟩ := a4
    refine cell_13 (by rw [a3]) ?_
    have c := c13 (by rw [a3])
    rw [a3] at c ⊢
    rw [sL_s]
    obtain ⟨q, q0, q1, q2, q3, q4, q5, q6, q7, q8⟩ := c
    exact ⟨q, q0, q1, q2, q3, q4, q5, rfl, q7, q8⟩
  · rw [hs_o _ _ hb]
    obtain ⟨c1, c2, c3, c4, c5, c6, c7, c8, c9, c10, c11, c12, c13, c14, c15, c16, c17, c18⟩ := hc b b1 b2
    refine ⟨c1, c2, c3, c4, c5, c6, c7, c8, c9, c10, c11, c12, fun z => ?_, c14, c15, c16, c17, c18⟩
    have hj : (g.2.2.2.1 b).2 ≠ i := fun q => hb (uniq pf a3 (Prod.ext z q) (Nat.le_of_ble_eq_true rfl))
    have c := c13 z
    rw [sL_k (b := 106) _ _ (Or.inr hj)]
    exact c
theorem op_kept (hs : Sim K g r x h) {i : Nat} (hi : i < (g.1 0 4)) (v : Int32) : Sim K g (sA r 107 i v) x (hset h ((g.1 5) i) 7 (.int v)) := by
  obtain ⟨a1, a2, a3, a4⟩ := sim_cell hs (ref_thg hi)
  obtain ⟨⟨h1, h2, h3, h4⟩, pf, hc, bk, s⟩ := hs
  refine ⟨⟨h1, h2, lo_set h3 a1, h4⟩, pf, fun b b1 b2 => ?_, bk_set bk a1, s⟩
  by_cases hb : b = (g.1 5) i
  · subst hb
    rw [hs_s]
    obtain ⟨c1, c2, c3, c4, c5, c6, c7, c8, c9, c10, c11, c12, c13, c14, c15, c16, c17, c18⟩ := a4
    refine cell_13 (by rw [a3]) ?_
    have c := c13 (by rw [a3])
    rw [a3] at c ⊢
    rw [sA_s]
    obtain ⟨q, q0, q1, q2, q3, q4, q5, q6, q7, q8⟩ := c
    exact ⟨q, q0, q1, q2, q3, q4, q5, q6, rfl, q8⟩
  · rw [hs_o _ _ hb]
    obtain ⟨c1, c2, c3, c4, c5, c6, c7, c8, c9, c10, c11, c12, c13, c14, c15, c16, c17, c18⟩ := hc b b1 b2
    refine ⟨c1, c2, c3, c4, c5, c6, c7, c8, c9, c10, c11, c12, fun z => ?_, c14, c15, c16, c17, c18⟩
    have hj : (g.2.2.2.1 b).2 ≠ i := fun q => hb (uniq pf a3 (Prod.ext z q) (Nat.le_of_ble_eq_true rfl))
    have c := c13 z
    rw [sA_k (b := 107) _ _ (Or.inr hj)]
    exact c
theorem op_begun (hs : Sim K g r x h) {i : Nat} (hi : i < (g.1 0 4)) (v : Int32) : Sim K g (sA r 105 i v) x (hset h ((g.1 5) i) 8 (.int v)) := by
  obtain ⟨a1, a2, a3, a4⟩ := sim_cell hs (ref_thg hi)
  obtain ⟨⟨h1, h2, h3, h4⟩, pf, hc, bk, s⟩ := hs
  refine ⟨⟨h1, h2, lo_set h3 a1, h4⟩, pf, fun b b1 b2 => ?_, bk_set bk a1, s⟩
  by_cases hb : b = (g.1 5) i
  · subst hb
    rw [hs_s]
    obtain ⟨c1, c2, c3, c4, c5, c6, c7, c8, c9, c10, c11, c12, c13, c14, c15, c16, c17, c18⟩ := a4
    refine cell_13 (by rw [a3]) ?_
    have c := c13 (by rw [a3])
    rw [a3] at c ⊢
    rw [sA_s]
    obtain ⟨q, q0, q1, q2, q3, q4, q5, q6, q7, q8⟩ := c
    exact ⟨q, q0, q1, q2, q3, q4, q5, q6, q7, rfl⟩
  · rw [hs_o _ _ hb]
    obtain ⟨c1, c2, c3, c4, c5, c6, c7, c8, c9, c10, c11, c12, c13, c14, c15, c16, c17, c18⟩ := hc b b1 b2
    refine ⟨c1, c2, c3, c4, c5, c6, c7, c8, c9, c10, c11, c12, fun z => ?_, c14, c15, c16, c17, c18⟩
    have hj : (g.2.2.2.1 b).2 ≠ i := fun q => hb (uniq pf a3 (Prod.ext z q) (Nat.le_of_ble_eq_true rfl))
    have c := c13 z
    rw [sA_k (b := 105) _ _ (Or.inr hj)]
    exact c
theorem op_held (hs : Sim K g r x h) {i k : Nat} (hi : i < (g.1 0 3)) (hk : k < 24) (v : Int32) : Sim K g (sA r 95 (24 * i + k) v) x (hset h ((g.1 4) i + 1) k (.int v)) := by
  obtain ⟨a1, a2, a3, a4⟩ := sim_cell hs (ref_d1 hi)
  obtain ⟨⟨h1, h2, h3, h4⟩, pf, hc, bk, s⟩ := hs
  refine ⟨⟨h1, h2, lo_set h3 a1, h4⟩, pf, fun b b1 b2 => ?_, bk_set bk a1, s⟩
  by_cases hb : b = (g.1 4) i + 1
  · subst hb
    rw [hs_s]
    obtain ⟨c1, c2, c3, c4, c5, c6, c7, c8, c9, c10, c11, c12, c13, c14, c15, c16, c17, c18⟩ := a4
    refine cell_10 (by rw [a3]) ?_
    have c := c10 (by rw [a3])
    rw [a3] at c ⊢
    refine ⟨c.1, c.2.1, fun j hj => ?_⟩
    dsimp only
    by_cases hjk : j = k
    · subst hjk
      rw [uv_s, sA_s]
    · rw [uv_o _ _ hjk, sA_k _ _ (by omega)]
      exact c.2.2 j hj
  · rw [hs_o _ _ hb]
    obtain ⟨c1, c2, c3, c4, c5, c6, c7, c8, c9, c10, c11, c12, c13, c14, c15, c16, c17, c18⟩ := hc b b1 b2
    refine ⟨c1, c2, c3, c4, c5, c6, c7, c8, c9, fun z => ?_, c11, c12, c13, c14, c15, c16, c17, c18⟩
    have hj : (g.2.2.2.1 b).2 ≠ i := fun q => hb (uniq pf a3 (Prod.ext z q) (Nat.le_of_ble_eq_true rfl))
    refine cInts_c (fun j hj => ?_) (c10 z)
    rw [sA_k _ _ (by omega)]
theorem op_ign (hs : Sim K g r x h) {i k : Nat} (hi : i < (g.1 0 3)) (hk : k < 9) (v : Int32) (hv : isBl v) : Sim K g (sA r 94 (9 * i + k) (if v = 0 then 1 else 0)) x (hset h ((g.1 4) i + 2) k (.int v)) := by
  obtain ⟨a1, a2, a3, a4⟩ := sim_cell hs (ref_d2 hi)
  obtain ⟨⟨h1, h2, h3, h4⟩, pf, hc, bk, s⟩ := hs
  refine ⟨⟨h1, h2, lo_set h3 a1, h4⟩, pf, fun b b1 b2 => ?_, bk_set bk a1, s⟩
  by_cases hb : b = (g.1 4) i + 2
  · subst hb
    rw [hs_s]
    obtain ⟨c1, c2, c3, c4, c5, c6, c7, c8, c9, c10, c11, c12, c13, c14, c15, c16, c17, c18⟩ := a4
    refine cell_11 (by rw [a3]) ?_
    have c := c11 (by rw [a3])
    rw [a3] at c ⊢
    refine ⟨c.1, c.2.1, fun j hj => ?_⟩
    dsimp only
    by_cases hjk : j = k
    · subst hjk
      rw [uv_s, sA_s]
      rcases hv with rfl | rfl <;> rfl
    · rw [uv_o _ _ hjk, sA_k _ _ (by omega)]
      exact c.2.2 j hj
  · rw [hs_o _ _ hb]
    obtain ⟨c1, c2, c3, c4, c5, c6, c7, c8, c9, c10, c11, c12, c13, c14, c15, c16, c17, c18⟩ := hc b b1 b2
    refine ⟨c1, c2, c3, c4, c5, c6, c7, c8, c9, c10, fun z => ?_, c12, c13, c14, c15, c16, c17, c18⟩
    have hj : (g.2.2.2.1 b).2 ≠ i := fun q => hb (uniq pf a3 (Prod.ext z q) (Nat.le_of_ble_eq_true rfl))
    refine cInts_c (fun j hj => ?_) (c11 z)
    rw [sA_k _ _ (by omega)]
theorem op_stock (hs : Sim K g r x h) {i k : Nat} (hi : i < (g.1 0 3)) (hk : k < 4) (v : Int32) : Sim K g (sA r 96 (4 * i + k) v) x (hset h ((g.1 4) i + 3) k (.int v)) := by
  obtain ⟨a1, a2, a3, a4⟩ := sim_cell hs (ref_d3 hi)
  obtain ⟨⟨h1, h2, h3, h4⟩, pf, hc, bk, s⟩ := hs
  refine ⟨⟨h1, h2, lo_set h3 a1, h4⟩, pf, fun b b1 b2 => ?_, bk_set bk a1, s⟩
  by_cases hb : b = (g.1 4) i + 3
  · subst hb
    rw [hs_s]
    obtain ⟨c1, c2, c3, c4, c5, c6, c7, c8, c9, c10, c11, c12, c13, c14, c15, c16, c17, c18⟩ := a4
    refine cell_12 (by rw [a3]) ?_
    have c := c12 (by rw [a3])
    rw [a3] at c ⊢
    refine ⟨c.1, c.2.1, fun j hj => ?_⟩
    dsimp only
    by_cases hjk : j = k
    · subst hjk
      rw [uv_s, sA_s]
    · rw [uv_o _ _ hjk, sA_k _ _ (by omega)]
      exact c.2.2 j hj
  · rw [hs_o _ _ hb]
    obtain ⟨c1, c2, c3, c4, c5, c6, c7, c8, c9, c10, c11, c12, c13, c14, c15, c16, c17, c18⟩ := hc b b1 b2
    refine ⟨c1, c2, c3, c4, c5, c6, c7, c8, c9, c10, c11, fun z => ?_, c13, c14, c15, c16, c17, c18⟩
    have hj : (g.2.2.2.1 b).2 ≠ i := fun q => hb (uniq pf a3 (Prod.ext z q) (Nat.le_of_ble_eq_true rfl))
    refine cInts_c (fun j hj => ?_) (c12 z)
    rw [sA_k _ _ (by omega)]
end
