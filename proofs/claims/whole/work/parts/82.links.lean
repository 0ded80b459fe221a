def inNm (k : Nat) : MethodName := match k with
  | 900 => ⟨"java/lang/Object", "<init>", "()V"⟩
  | 901 => ⟨"java/util/Arrays", "copyOf", "([BI)[B"⟩
  | 902 => ⟨"java/util/Arrays", "copyOf", "([Ljava/lang/Object;I)[Ljava/lang/Object;"⟩
  | 903 => ⟨"java/util/Arrays", "copyOfRange", "([III)[I"⟩
  | 904 => ⟨"java/lang/Math", "max", "(II)I"⟩
  | 905 => ⟨"java/lang/Math", "min", "(II)I"⟩
  | k => mY k
def fOK (e : Nat × Nat × Nat) : Bool := match lw_tbl[e.2.1]? with
  | some (.fieldLink o i ref n d) => match vwCl[e.2.2 / 1000]? with
    | some q => decide (o = cn (e.1 / 100000)) && (decide (i = e.1 % 100000) && (decide (e.2.2 % 1000 < q.2.2) && (decide (n = (q.2.1 (e.2.2 % 1000)).2.1) && (decide (d = (q.2.1 (e.2.2 % 1000)).2.2.1) && (decide (ref = (q.2.1 (e.2.2 % 1000)).1) || (decide (ref = "java/util/ArrayList") && (decide ((q.2.1 (e.2.2 % 1000)).1 = "java/util/AbstractList") && (decide (n = "modCount") && decide (d = "I")))))))))
    | none => false
  | _ => false
def mLK (e : Nat × Nat × Nat) : Bool := match lw_tbl[e.2.1]? with
  | some (.methodLink o i y) => decide (o = cn (e.1 / 100000)) && (decide (i = e.1 % 100000) && decide (y = inNm e.2.2))
  | some (.methodLinkNest o i y hst) => decide (o = cn (e.1 / 100000)) && (decide (i = e.1 % 100000) && (decide (y = inNm e.2.2) && (decide (hst = "RemoteDesks") && decide (y.name = "<init>"))))
  | _ => false
def cOK (e : Nat × Nat × Int) : Bool := match lw_tbl[e.2.1]? with
  | some (.constant o i v) => decide (o = cn (e.1 / 100000)) && (decide (i = e.1 % 100000) && decide (v = Int32.ofInt e.2.2))
  | _ => false
def clOK (e : Nat × Nat × Nat) : Bool := match lw_tbl[e.2.1]? with
  | some (.constantLong o i v) => decide (o = cn (e.1 / 100000)) && (decide (i = e.1 % 100000) && decide (v = Int64.ofNat e.2.2))
  | _ => false
def stNm (k : Nat) : String × String × String := match k with
  | 1 => ("java/util/ArrayList", "DEFAULTCAPACITY_EMPTY_ELEMENTDATA", "[Ljava/lang/Object;")
  | 2 => ("RemoteDesks$BookReader", "RESERVED", "[J")
  | 3 => ("RemoteDesks", "NO_BYTES", "[B")
  | _ => ("RemoteDesks", "AGED_BYTES", "[B")
def sOK (e : Nat × Nat × Nat) : Bool := match lw_tbl[e.2.1]? with
  | some (.fieldLink o i ref n d) => decide (o = cn (e.1 / 100000)) && (decide (i = e.1 % 100000) && (decide (0 < e.2.2) && (decide (e.2.2 < 5) && decide ((ref, n, d) = stNm e.2.2))))
  | some (.fieldLinkNest o i ref n d _) => decide (o = cn (e.1 / 100000)) && (decide (i = e.1 % 100000) && (decide (0 < e.2.2) && (decide (e.2.2 < 5) && decide ((ref, n, d) = stNm e.2.2))))
  | _ => false
def nOK (e : Nat × Nat × Nat) : Bool := match lw_tbl[e.2.1]? with
  | some (.classLink o i C) => decide (o = cn (e.1 / 100000)) && (decide (i = e.1 % 100000) && (decide (C = cn e.2.2) && decide (e.2.2 < 14)))
  | _ => false
def agC (t : Nat) : String := match t with
  | 24 => "java/lang/Object"
  | 25 => "RemoteDesks$Value"
  | _ => "RemoteDesks$Failure"
def aOK (e : Nat × Nat × Nat) : Bool := match lw_tbl[e.2.1]? with
  | some (.classLink o i C) => decide (o = cn (e.1 / 100000)) && (decide (i = e.1 % 100000) && (decide (24 ≤ e.2.2) && (decide (e.2.2 ≤ 26) && decide (C = agC e.2.2))))
  | _ => false
set_option maxRecDepth 20000 in
theorem ftT_ok0 : ((ftT.drop 0).take 60).all fOK = true := by decide +kernel
set_option maxRecDepth 20000 in
theorem ftT_ok1 : ((ftT.drop 60).take 60).all fOK = true := by decide +kernel
set_option maxRecDepth 20000 in
theorem ftT_ok2 : ((ftT.drop 120).take 60).all fOK = true := by decide +kernel
set_option maxRecDepth 20000 in
theorem ftT_ok3 : ((ftT.drop 180).take 60).all fOK = true := by decide +kernel
set_option maxRecDepth 20000 in
theorem ftT_ok4 : ((ftT.drop 240).take 60).all fOK = true := by decide +kernel
set_option maxRecDepth 20000 in
theorem mtT_ok0 : ((mtT.drop 0).take 60).all mLK = true := by decide +kernel
set_option maxRecDepth 20000 in
theorem mtT_ok1 : ((mtT.drop 60).take 60).all mLK = true := by decide +kernel
set_option maxRecDepth 20000 in
theorem mtT_ok2 : ((mtT.drop 120).take 60).all mLK = true := by decide +kernel
set_option maxRecDepth 20000 in
theorem mtT_ok3 : ((mtT.drop 180).take 60).all mLK = true := by decide +kernel
set_option maxRecDepth 20000 in
theorem mtT_ok4 : ((mtT.drop 240).take 60).all mLK = true := by decide +kernel
set_option maxRecDepth 20000 in
theorem mtT_ok5 : ((mtT.drop 300).take 60).all mLK = true := by decide +kernel
set_option maxRecDepth 20000 in
theorem ctT_ok : ctT.all cOK = true := by decide +kernel
set_option maxRecDepth 20000 in
theorem clT_ok : clT.all clOK = true := by decide +kernel
set_option maxRecDepth 20000 in
theorem stT_ok : stT.all sOK = true := by decide +kernel
set_option maxRecDepth 20000 in
theorem nwT_ok : nwT.all nOK = true := by decide +kernel
set_option maxRecDepth 20000 in
theorem anT_ok : anT.all aOK = true := by decide +kernel
def mOK (k : Nat) : Bool := match mfT.getD k (9, 0, 0, 0, 0) with
  | (kd, pk, ps, pi, n) => (match lw_tbl[mC k]? with | some (.code y _ ml r) => decide (y = mY k) && (decide (ml = mL k) && decide (r = mR k)) | _ => false) && (decide (lw_tbl[pi]? = some (.initialized (mY k).cls)) && (decide ((mY k).cls = cn (mO k)) && (decide ((mY k).cls ≠ "java/lang/invoke/MethodHandle") && (decide ((mY k).cls ≠ "java/lang/invoke/VarHandle") && (decide ((parseMethodDescriptor (mY k).desc).map (fun d => d.parameters.length) = some n) && (plainName (mY k).cls && (decide (mL k ≤ 30) && (match kd with
    | 0 => decide (lw_tbl[pk]? = some (.static (mY k)))
    | 1 => decide (lw_tbl[pk]? = some (.instanceMethod (mY k))) && (decide ((mY k).name = "<init>") && decide (mR k = none))
    | 2 => decide (lw_tbl[pk]? = some (.instanceMethod (mY k))) && (decide (lw_tbl[ps]? = some (.selects (mY k).cls (mY k) (mY k))) && decide ((mY k).name ≠ "<init>"))
    | _ => false))))))))
set_option maxRecDepth 20000 in
theorem mf_ok0 : ((List.range 24).drop 0).all mOK = true := by decide +kernel
set_option maxRecDepth 20000 in
theorem mf_ok1 : ((List.range 48).drop 24).all mOK = true := by decide +kernel
set_option maxRecDepth 20000 in
theorem mf_ok2 : ((List.range 72).drop 48).all mOK = true := by decide +kernel
set_option maxRecDepth 20000 in
theorem mf_ok3 : ((List.range 96).drop 72).all mOK = true := by decide +kernel
set_option maxRecDepth 20000 in
theorem mf_ok4 : ((List.range 120).drop 96).all mOK = true := by decide +kernel
set_option maxRecDepth 20000 in
theorem mf_ok5 : ((List.range 144).drop 120).all mOK = true := by decide +kernel
set_option maxRecDepth 20000 in
theorem mf_ok6 : ((List.range 168).drop 144).all mOK = true := by decide +kernel
set_option maxRecDepth 20000 in
theorem mf_ok7 : ((List.range 192).drop 168).all mOK = true := by decide +kernel
set_option maxRecDepth 20000 in
theorem mf_ok8 : ((List.range 216).drop 192).all mOK = true := by decide +kernel
set_option maxRecDepth 20000 in
theorem mf_ok9 : ((List.range 240).drop 216).all mOK = true := by decide +kernel
set_option maxRecDepth 20000 in
theorem mf_ok10 : ((List.range 264).drop 240).all mOK = true := by decide +kernel
set_option maxRecDepth 20000 in
theorem mf_ok11 : ((List.range 287).drop 264).all mOK = true := by decide +kernel
