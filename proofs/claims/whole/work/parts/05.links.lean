def inNm (k : Nat) : MethodName := match k with
  | 900 => ⟨"java/lang/Object", "<init>", "()V"⟩
  | 901 => ⟨"java/util/Arrays", "copyOf", "([BI)[B"⟩
  | 902 => ⟨"java/util/Arrays", "copyOf", "([Ljava/lang/Object;I)[Ljava/lang/Object;"⟩
  | 903 => ⟨"java/util/Arrays", "copyOfRange", "([III)[I"⟩
  | 904 => ⟨"java/lang/Math", "max", "(II)I"⟩
  | 905 => ⟨"java/lang/Math", "min", "(II)I"⟩
  | k => mY k
def fOK (e : Nat × Nat × Nat) : Bool := match lw_tbl[e.2.1]? with
  | some (.fieldLink o i ref n d) => match vwCl[e.2.2 / 1000]? with
    | some q => decide (o = cn (e.1 / 100000)) && (decide (i = e.1 % 100000) && (decide (e.2.2 % 1000 < q.2.2) && (decide (n = (q.2.1 (e.2.2 % 1000)).2.1) && (decide (d = (q.2.1 (e.2.2 % 1000)).2.2.1) && (decide (ref = (q.2.1 (e.2.2 % 1000)).1) || (decide (ref = "java/util/ArrayList") && (decide ((q.2.1 (e.2.2 % 1000)).1 = "java/util/AbstractList") && (decide (n = "modCount") && decide (d = "I")))))))))
    | none => false
  | _ => false
def mLK (e : Nat × Nat × Nat) : Bool := match lw_tbl[e.2.1]? with
  | some (.methodLink o i y) => decide (o = cn (e.1 / 100000)) && (decide (i = e.1 % 100000) && decide (y = inNm e.2.2))
  | some (.methodLinkNest o i y hst) => decide (o = cn (e.1 / 100000)) && (decide (i = e.1 % 100000) && (decide (y = inNm e.2.2) && (decide (hst = "RemoteDesks") && decide (y.name = "<init>"))))
  | _ => false
def cOK (e : Nat × Nat × Int) : Bool := match lw_tbl[e.2.1]? with
  | some (.constant o i v) => decide (o = cn (e.1 / 100000)) && (decide (i = e.1 % 100000) && decide (v = Int32.ofInt e.2.2))
  | _ => false
def clOK (e : Nat × Nat × Nat) : Bool := match lw_tbl[e.2.1]? with
  | some (.constantLong o i v) => decide (o = cn (e.1 / 100000)) && (decide (i = e.1 % 100000) && decide (v = Int64.ofNat e.2.2))
  | _ => false
def stNm (k : Nat) : String × String × String := match k with
  | 1 => ("java/util/ArrayList", "DEFAULTCAPACITY_EMPTY_ELEMENTDATA", "[Ljava/lang/Object;")
  | 2 => ("RemoteDesks$BookReader", "RESERVED", "[J")
  | 3 => ("RemoteDesks", "NO_BYTES", "[B")
  | _ => ("RemoteDesks", "AGED_BYTES", "[B")
def sOK (e : Nat × Nat × Nat) : Bool := match lw_tbl[e.2.1]? with
  | some (.fieldLink o i ref n d) => decide (o = cn (e.1 / 100000)) && (decide (i = e.1 % 100000) && (decide (0 < e.2.2) && (decide (e.2.2 < 5) && decide ((ref, n, d) = stNm e.2.2))))
  | some (.fieldLinkNest o i ref n d _) => decide (o = cn (e.1 / 100000)) && (decide (i = e.1 % 100000) && (decide (0 < e.2.2) && (decide (e.2.2 < 5) && decide ((ref, n, d) = stNm e.2.2))))
  | _ => false
def nOK (e : Nat × Nat × Nat) : Bool := match lw_tbl[e.2.1]? with
  | some (.classLink o i C) => decide (o = cn (e.1 / 100000)) && (decide (i = e.1 % 100000) && (decide (C = cn e.2.2) && decide (e.2.2 < 14)))
  | _ => false
def agC (t : Nat) : String := match t with
  | 24 => "java/lang/Object"
  | 25 => "RemoteDesks$Value"
  | _ => "RemoteDesks$Failure"
def aOK (e : Nat × Nat × Nat) : Bool := match lw_tbl[e.2.1]? with
  | some (.classLink o i C) => decide (o = cn (e.1 / 100000)) && (decide (i = e.1 % 100000) && (decide (24 ≤ e.2.2) && (decide (e.2.2 ≤ 26) && decide (C = agC e.2.2))))
  | _ => false
set_option maxRecDepth 20000 in
theorem ftT_ok0 : ((ftT.drop 0).take 60).all fOK = true := by decide +kernel
set_option maxRecDepth 20000 in
theorem ftT_ok1 : ((ftT.drop 60).take 60).all fOK = true := by decide +kernel
set_option maxRecDepth 20000 in
theorem ftT_ok2 : ((ftT.drop 120).take 60).all fOK = true := by decide +kernel
set_option maxRecDepth 20000 in
theorem ftT_ok3 : ((ftT.drop 180).take 60).all fOK = true := by decide +kernel
set_option maxRecDepth 20000 in
theorem ftT_ok4 : ((ftT.drop 240).take 60).all fOK = true := by decide +kernel
set_option maxRecDepth 20000 in
theorem mtT_ok0 : ((mtT.drop 0).take 60).all mLK = true := by decide +kernel
set_option maxRecDepth 20000 in
theorem mtT_ok1 : ((mtT.drop 60).take 60).all mLK = true := by decide +kernel
set_option maxRecDepth 20000 in
theorem mtT_ok2 : ((mtT.drop 120).take 60).all mLK = true := by decide +kernel
set_option maxRecDepth 20000 in
theorem mtT_ok3 : ((mtT.drop 180).take 60).all mLK = true := by decide +kernel
set_option maxRecDepth 20000 in
theorem mtT_ok4 : ((mtT.drop 240).take 60).all mLK = true := by decide +kernel
set_option maxRecDepth 20000 in
theorem mtT_ok5 : ((mtT.drop 300).take 60).all mLK = true := by decide +kernel
set_option maxRecDepth 20000 in
theorem ctT_ok : ctT.all cOK = true := by decide +kernel
set_option maxRecDepth 20000 in
theorem clT_ok : clT.all clOK = true := by decide +kernel
set_option maxRecDepth 20000 in
theorem stT_ok : stT.all sOK = true := by decide +kernel
set_option maxRecDepth 20000 in
theorem nwT_ok : nwT.all nOK = true := by decide +kernel
set_option maxRecDepth 20000 in
theorem anT_ok : anT.all aOK = true := by decide +kernel
def mfT : List (Nat × Nat × Nat × Nat × Nat) := [(1, 159, 0, 134, 0), (1, 167, 0, 135, 0), (1, 237, 0, 138, 0), (1, 240, 0, 137, 0), (1, 243, 0, 136, 0), (1, 263, 0, 139, 0), (1, 297, 0, 140, 0), (2, 367, 368, 134, 5), (2, 373, 0, 134, 1), (2, 376, 377, 134, 1), (2, 381, 382, 134, 0), (1, 388, 0, 142, 2), (2, 428, 429, 142, 0), (2, 433, 1, 142, 0), (0, 436, 0, 142, 1), (2, 440, 2, 142, 0), (0, 445, 0, 135, 3), (2, 449, 3, 142, 0), (2, 453, 4, 142, 2), (2, 457, 5, 142, 0), (2, 461, 6, 142, 1), (2, 464, 465, 135, 1), (2, 469, 470, 135, 1), (2, 473, 474, 135, 1), (2, 478, 7, 142, 1), (2, 482, 8, 142, 0), (2, 486, 9, 142, 2), (2, 490, 10, 142, 0), (2, 495, 11, 142, 0), (2, 499, 12, 142, 0), (2, 503, 13, 142, 2), (2, 507, 14, 142, 0), (2, 511, 15, 142, 2), (2, 515, 16, 142, 1), (2, 518, 519, 134, 0), (2, 522, 523, 134, 1), (2, 526, 527, 138, 0), (2, 530, 531, 134, 1), (1, 537, 0, 144, 2), (0, 543, 0, 145, 1), (1, 549, 0, 145, 3), (2, 585, 586, 138, 1), (2, 590, 17, 138, 3), (2, 594, 18, 138, 0), (2, 598, 19, 138, 1), (0, 601, 0, 146, 3), (2, 644, 645, 134, 3), (2, 649, 20, 134, 2), (2, 653, 21, 134, 1), (2, 656, 657, 138, 1), (0, 660, 0, 149, 2), (0, 663, 0, 150, 3), (2, 666, 667, 138, 1), (2, 671, 22, 134, 2), (2, 676, 23, 134, 2), (2, 680, 24, 134, 1), (2, 685, 25, 134, 2), (2, 701, 702, 134, 2), (2, 706, 707, 145, 0), (2, 710, 711, 134, 3), (2, 714, 715, 145, 1), (2, 718, 719, 134, 1), (2, 722, 723, 134, 2), (2, 726, 727, 135, 1), (2, 730, 731, 134, 0), (2, 734, 735, 138, 0), (2, 738, 739, 134, 0), (1, 744, 0, 151, 1), (0, 748, 0, 147, 2), (2, 783, 784, 134, 5), (2, 788, 26, 134, 1), (2, 792, 27, 134, 1), (1, 797, 0, 152, 6), (2, 839, 840, 134, 3), (0, 843, 0, 134, 1), (1, 847, 0, 153, 3), (2, 873, 874, 134, 2), (2, 878, 28, 134, 0), (2, 881, 882, 134, 3), (2, 885, 886, 134, 2), (2, 889, 890, 151, 1), (2, 893, 894, 134, 2), (2, 897, 898, 134, 2), (2, 901, 902, 134, 2), (2, 906, 29, 134, 1), (2, 909, 910, 134, 3), (2, 913, 914, 135, 2), (2, 918, 30, 134, 0), (2, 921, 922, 151, 1), (2, 925, 926, 135, 2), (2, 930, 31, 134, 4), (2, 933, 934, 140, 0), (2, 937, 938, 140, 2), (2, 941, 942, 140, 2), (2, 950, 32, 140, 1), (2, 955, 33, 140, 2), (2, 965, 34, 134, 5), (1, 970, 0, 154, 7), (2, 1039, 1040, 140, 0), (2, 1045, 35, 134, 1), (2, 1049, 36, 134, 3), (2, 1053, 1054, 139, 0), (2, 1057, 1058, 139, 1), (2, 1061, 1062, 139, 6), (2, 1068, 37, 134, 2), (0, 1071, 0, 134, 2), (0, 1074, 0, 134, 4), (2, 1078, 38, 134, 3), (2, 1082, 39, 134, 3), (2, 1085, 1086, 140, 1), (0, 1089, 0, 134, 2), (2, 1092, 1093, 154, 2), (2, 1097, 40, 134, 1), (2, 1101, 41, 134, 3), (2, 1104, 1105, 152, 1), (2, 1108, 1109, 152, 1), (2, 1116, 42, 134, 3), (2, 1120, 43, 134, 1), (0, 1123, 0, 134, 3), (2, 1126, 1127, 145, 0), (0, 1130, 0, 134, 3), (2, 1133, 1134, 144, 0), (0, 1138, 0, 134, 2), (2, 1142, 44, 134, 4), (2, 1145, 1146, 134, 1), (2, 1150, 45, 134, 1), (2, 1153, 1154, 134, 1), (2, 1157, 1158, 134, 2), (2, 1161, 1162, 134, 3), (2, 1165, 1166, 134, 2), (2, 1169, 1170, 134, 2), (2, 1173, 1174, 139, 2), (2, 1177, 1178, 134, 1), (2, 1181, 1182, 139, 1), (2, 1186, 1187, 154, 1), (1, 1192, 0, 155, 0), (2, 1224, 1225, 155, 2), (2, 1228, 1229, 155, 0), (2, 1234, 46, 134, 2), (2, 1237, 1238, 155, 1), (2, 1241, 1242, 155, 1), (2, 1248, 47, 134, 2), (2, 1251, 1252, 135, 2), (2, 1271, 48, 134, 3), (2, 1274, 1275, 155, 3), (2, 1283, 49, 155, 0), (2, 1289, 50, 155, 3), (2, 1297, 1298, 138, 1), (2, 1302, 51, 138, 2), (2, 1307, 52, 134, 2), (2, 1311, 53, 134, 2), (2, 1316, 1317, 154, 0), (2, 1320, 1321, 155, 2), (2, 1325, 1326, 151, 2), (2, 1329, 1330, 134, 1), (2, 1333, 1334, 134, 1), (2, 1337, 1338, 139, 0), (2, 1341, 1342, 134, 1), (2, 1346, 54, 134, 1), (2, 1349, 1350, 134, 1), (2, 1353, 1354, 154, 1), (2, 1358, 1359, 134, 2), (2, 1363, 55, 134, 1), (2, 1367, 56, 134, 1), (2, 1371, 57, 134, 1), (2, 1374, 1375, 154, 1), (2, 1378, 1379, 134, 3), (2, 1382, 1383, 134, 4), (2, 1387, 1388, 134, 2), (2, 1392, 58, 134, 1), (1, 1397, 0, 141, 0), (2, 1705, 1706, 141, 5), (2, 1710, 1711, 141, 1), (0, 1714, 0, 141, 3), (2, 1718, 1719, 141, 0), (2, 1724, 59, 141, 0), (0, 1727, 0, 141, 1), (2, 1731, 60, 141, 0), (0, 1734, 0, 141, 4), (2, 1738, 61, 141, 1), (2, 1742, 62, 141, 2), (2, 1746, 63, 141, 0), (2, 1750, 64, 141, 0), (0, 1753, 0, 141, 4), (2, 1757, 65, 141, 2), (2, 1761, 66, 141, 0), (2, 1765, 67, 141, 1), (2, 1769, 68, 141, 0), (2, 1773, 69, 141, 0), (2, 1777, 70, 141, 0), (2, 1781, 71, 141, 3), (2, 1784, 1785, 141, 0), (2, 1788, 1789, 141, 1), (2, 1794, 72, 141, 1), (2, 1798, 73, 141, 2), (2, 1802, 1803, 141, 3), (2, 1807, 74, 141, 2), (2, 1811, 75, 141, 1), (2, 1815, 76, 141, 2), (2, 1819, 77, 141, 2), (2, 1823, 78, 141, 3), (2, 1826, 1827, 141, 2), (2, 1831, 79, 141, 2), (2, 1835, 1836, 141, 3), (2, 1840, 80, 141, 3), (2, 1843, 1844, 141, 1), (2, 1847, 1848, 141, 2), (2, 1852, 81, 141, 1), (2, 1858, 1859, 141, 0), (2, 1862, 1863, 141, 0), (2, 1866, 1867, 141, 5), (2, 1871, 82, 141, 1), (2, 1876, 1877, 141, 3), (2, 1881, 1882, 141, 2), (2, 1886, 83, 141, 0), (2, 1889, 1890, 141, 3), (2, 1893, 1894, 141, 2), (2, 1898, 84, 141, 1), (2, 1902, 85, 141, 2), (2, 1905, 1906, 141, 2), (2, 1909, 1910, 141, 2), (2, 1913, 1914, 141, 2), (2, 1917, 1918, 141, 3), (2, 1922, 86, 141, 4), (2, 1926, 87, 141, 0), (2, 1930, 88, 141, 1), (2, 1934, 89, 141, 2), (2, 1938, 90, 141, 2), (2, 1942, 91, 141, 2), (2, 1947, 92, 141, 1), (2, 1951, 93, 141, 4), (2, 1955, 94, 141, 1), (2, 1959, 95, 141, 2), (2, 1963, 96, 141, 2), (2, 1967, 97, 141, 1), (2, 1971, 98, 141, 1), (2, 1975, 99, 141, 1), (2, 1979, 100, 141, 2), (2, 1983, 101, 141, 1), (2, 1987, 102, 141, 0), (2, 1991, 103, 141, 1), (2, 1995, 104, 141, 1), (2, 1999, 105, 141, 2), (2, 2003, 106, 141, 6), (2, 2007, 107, 141, 1), (2, 2011, 108, 141, 7), (2, 2015, 109, 141, 0), (2, 2019, 110, 141, 1), (2, 2023, 111, 141, 1), (2, 2027, 112, 141, 1), (2, 2031, 113, 141, 1), (2, 2035, 114, 141, 1), (2, 2039, 115, 141, 2), (2, 2043, 116, 141, 1), (2, 2047, 117, 141, 2), (2, 2051, 118, 141, 1), (2, 2055, 119, 141, 1), (2, 2059, 120, 141, 2), (2, 2063, 121, 141, 1), (2, 2066, 2067, 141, 1), (2, 2071, 122, 141, 1), (2, 2074, 2075, 141, 1), (2, 2078, 2079, 141, 2), (2, 2082, 2083, 141, 3), (2, 2086, 2087, 141, 2), (2, 2090, 2091, 141, 2), (2, 2094, 2095, 141, 1), (2, 2099, 123, 141, 5), (2, 2103, 124, 141, 2), (2, 2107, 125, 141, 1), (2, 2111, 126, 141, 2), (2, 2115, 127, 141, 0), (2, 2119, 128, 141, 1), (2, 2123, 129, 141, 4), (2, 2127, 130, 141, 2), (2, 2131, 131, 141, 1), (2, 2135, 132, 141, 1), (2, 2138, 2139, 141, 1), (2, 2142, 2143, 141, 1), (2, 2146, 2147, 141, 1), (2, 2151, 2152, 141, 1), (2, 2155, 2156, 141, 2), (0, 2159, 0, 141, 1), (2, 2162, 2163, 141, 1), (2, 2166, 2167, 141, 3), (2, 2172, 2173, 141, 4), (2, 2176, 2177, 141, 2)]
def mKind (k : Nat) : Nat := (mfT.getD k (9, 0, 0, 0, 0)).1
def mPar (k : Nat) : Nat := (mfT.getD k (9, 0, 0, 0, 0)).2.2.2.2
def mOK (k : Nat) : Bool := match mfT.getD k (9, 0, 0, 0, 0) with
  | (kd, pk, ps, pi, n) => (match lw_tbl[mC k]? with | some (.code y _ ml r) => decide (y = mY k) && (decide (ml = mL k) && decide (r = mR k)) | _ => false) && (decide (lw_tbl[pi]? = some (.initialized (mY k).cls)) && (decide ((mY k).cls = cn (mO k)) && (decide ((mY k).cls ≠ "java/lang/invoke/MethodHandle") && (decide ((mY k).cls ≠ "java/lang/invoke/VarHandle") && (decide ((parseMethodDescriptor (mY k).desc).map (fun d => d.parameters.length) = some n) && (plainName (mY k).cls && (decide (mL k ≤ 30) && (match kd with
    | 0 => decide (lw_tbl[pk]? = some (.static (mY k)))
    | 1 => decide (lw_tbl[pk]? = some (.instanceMethod (mY k))) && (decide ((mY k).name = "<init>") && decide (mR k = none))
    | 2 => decide (lw_tbl[pk]? = some (.instanceMethod (mY k))) && (decide (lw_tbl[ps]? = some (.selects (mY k).cls (mY k) (mY k))) && decide ((mY k).name ≠ "<init>"))
    | _ => false))))))))
set_option maxRecDepth 20000 in
theorem mf_ok0 : ((List.range 24).drop 0).all mOK = true := by decide +kernel
set_option maxRecDepth 20000 in
theorem mf_ok1 : ((List.range 48).drop 24).all mOK = true := by decide +kernel
set_option maxRecDepth 20000 in
theorem mf_ok2 : ((List.range 72).drop 48).all mOK = true := by decide +kernel
set_option maxRecDepth 20000 in
theorem mf_ok3 : ((List.range 96).drop 72).all mOK = true := by decide +kernel
set_option maxRecDepth 20000 in
theorem mf_ok4 : ((List.range 120).drop 96).all mOK = true := by decide +kernel
set_option maxRecDepth 20000 in
theorem mf_ok5 : ((List.range 144).drop 120).all mOK = true := by decide +kernel
set_option maxRecDepth 20000 in
theorem mf_ok6 : ((List.range 168).drop 144).all mOK = true := by decide +kernel
set_option maxRecDepth 20000 in
theorem mf_ok7 : ((List.range 192).drop 168).all mOK = true := by decide +kernel
set_option maxRecDepth 20000 in
theorem mf_ok8 : ((List.range 216).drop 192).all mOK = true := by decide +kernel
set_option maxRecDepth 20000 in
theorem mf_ok9 : ((List.range 240).drop 216).all mOK = true := by decide +kernel
set_option maxRecDepth 20000 in
theorem mf_ok10 : ((List.range 264).drop 240).all mOK = true := by decide +kernel
set_option maxRecDepth 20000 in
theorem mf_ok11 : ((List.range 287).drop 264).all mOK = true := by decide +kernel
