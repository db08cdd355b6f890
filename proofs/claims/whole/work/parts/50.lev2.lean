/-! WHAT STANDS AT THE START: array classes, words, constants. Printed by wip/whole/gen/mk50.py out of mk50.head.txt. -/
section LEV2
theorem lev_p {args : Array Value} {s : State} {ty : FieldType} (h : (Cond.arrayClass ty).before args s = true) : ∃ c : ClassId, ArrOfT s c ty ∧ s.vm.findClass ("[" ++ ty.toString) = some c := by
  obtain ⟨c, k, comp, h1, h2, h3⟩ := Cond.arrayClass_spec h
  exact ⟨c, fun n z => ⟨fun k h => (by first | (cases h; done) | (simp [arrV] at h; done)), k, h2, comp, h3⟩, h1⟩
theorem lev_T {args : Array Value} {s : State} (hts : ∀ w ∈ TG, w.before args s = true) (ho : (Cond.arrayOver (.object "ButtonReef$State")).before args s = true) : ∃ C : Nat → ClassId, ∀ (k : Nat) (q : ClassId × FieldType), [(C 0, FieldType.int), (C 1, FieldType.char), (C 2, FieldType.long), (C 3, FieldType.double), (C 4, FieldType.object "ButtonReef$State")][k]? = some q → ArrOfT s q.1 q.2 ∧ va_RA s q.1 q.2 := by
  obtain ⟨c0, a0, b0⟩ := lev_p (hts _ ac_int)
  obtain ⟨c1, a1, b1⟩ := lev_p (hts _ ac_char)
  obtain ⟨c2, a2, b2⟩ := lev_p (hts _ ac_long)
  obtain ⟨c3, a3, b3⟩ := lev_p (hts _ ac_double)
  obtain ⟨comp, c4, k4, d1, -, d2, d3, d4⟩ := Cond.arrayOver_spec ho
  refine ⟨fun k => match k with | 0 => c0 | 1 => c1 | 2 => c2 | 3 => c3 | _ => c4, fun k q hq => ?_⟩
  match k, hq with
  | 0, hq => cases hq; exact ⟨a0, b0⟩
  | 1, hq => cases hq; exact ⟨a1, b1⟩
  | 2, hq => cases hq; exact ⟨a2, b2⟩
  | 3, hq => cases hq; exact ⟨a3, b3⟩
  | 4, hq => cases hq; exact ⟨fun n z => ⟨fun k h => (by first | (cases h; done) | (simp [arrV] at h; done)), k4, d2, comp, d3⟩, k4, comp, d2, d3, d1, d4⟩
  | n + 5, hq => cases hq
def nF : List Cond := flatC (Jvm.Cond.and given_1 narrow_1)
theorem lz_F {α : Type} (L : List α) (is : List Nat) (W : List Cond) (f : α → Cond) (hl : L.length ≤ is.length) (h : ∀ p ∈ L.zip is, W[p.2]? = some (f p.1)) : ∀ q ∈ L, f q ∈ W := by
  intro q hq
  obtain ⟨i, hi, rfl⟩ := List.mem_iff_getElem.mp hq
  have h1 : (L[i], is[i]'(Nat.lt_of_lt_of_le hi hl)) ∈ L.zip is := by
    refine List.mem_iff_getElem.mpr ⟨i, ?_, ?_⟩
    · rw [List.length_zip]; omega
    · exact List.getElem_zip
  exact List.mem_of_getElem? (h _ h1)
/-- the terms whose values the places from 1000 on are -/
def tmL : List (Nat × Term) := [(1000, (Term.static "ButtonReef$Rule" "CALM" "LButtonReef$Rule;")), (1001, (Term.static "ButtonReef$Rule" "BUSY" "LButtonReef$Rule;")), (1002, (Term.static "ButtonReef$Rule" "SLOW" "LButtonReef$Rule;")), (1010, (Term.static "ButtonReef$Pattern" "SQUARE" "LButtonReef$Pattern;")), (1011, (Term.static "ButtonReef$Pattern" "LINE" "LButtonReef$Pattern;")), (1012, (Term.static "ButtonReef$Pattern" "CROSS" "LButtonReef$Pattern;")), (1013, (Term.static "ButtonReef$Pattern" "GLIDER" "LButtonReef$Pattern;")), (1020, (Term.static "ButtonReef$Verb" "PLACE" "LButtonReef$Verb;")), (1021, (Term.static "ButtonReef$Verb" "REMOVE" "LButtonReef$Verb;")), (1022, (Term.static "ButtonReef$Verb" "BLEACH" "LButtonReef$Verb;")), (1023, (Term.static "ButtonReef$Verb" "COLOUR" "LButtonReef$Verb;")), (1024, (Term.static "ButtonReef$Verb" "PLANT" "LButtonReef$Verb;")), (1025, (Term.static "ButtonReef$Verb" "RULE" "LButtonReef$Verb;")), (1026, (Term.static "ButtonReef$Verb" "TIDE" "LButtonReef$Verb;")), (1030, (Term.static "ButtonReef" "RULES" "[LButtonReef$Rule;")), (1031, (Term.static "ButtonReef" "PATTERNS" "[LButtonReef$Pattern;")), (1032, (Term.static "ButtonReef" "VERBS" "[LButtonReef$Verb;")), (1033, (Term.static "ButtonReef$1" "$SwitchMap$ButtonReef$Verb" "[I")), (1100, (Term.string "ButtonReef$Rule" 47)), (1101, (Term.string "ButtonReef$Rule" 53)), (1102, (Term.string "ButtonReef$Rule" 56)), (1110, (Term.string "ButtonReef$Pattern" 68)), (1111, (Term.string "ButtonReef$Pattern" 74)), (1112, (Term.string "ButtonReef$Pattern" 77)), (1113, (Term.string "ButtonReef$Pattern" 80)), (1120, (Term.string "ButtonReef$Verb" 56)), (1121, (Term.string "ButtonReef$Verb" 62)), (1122, (Term.string "ButtonReef$Verb" 65)), (1123, (Term.string "ButtonReef$Verb" 68)), (1124, (Term.string "ButtonReef$Verb" 71)), (1125, (Term.string "ButtonReef$Verb" 74)), (1126, (Term.string "ButtonReef$Verb" 77)), (1130, (Term.string "ButtonReef" 318)), (1131, (Term.string "ButtonReef" 326)), (1200, (Term.field (Term.string "ButtonReef$Rule" 47) "java/lang/String" "value" "[B")), (1201, (Term.field (Term.string "ButtonReef$Rule" 53) "java/lang/String" "value" "[B")), (1202, (Term.field (Term.string "ButtonReef$Rule" 56) "java/lang/String" "value" "[B")), (1210, (Term.field (Term.string "ButtonReef$Pattern" 68) "java/lang/String" "value" "[B")), (1211, (Term.field (Term.string "ButtonReef$Pattern" 74) "java/lang/String" "value" "[B")), (1212, (Term.field (Term.string "ButtonReef$Pattern" 77) "java/lang/String" "value" "[B")), (1213, (Term.field (Term.string "ButtonReef$Pattern" 80) "java/lang/String" "value" "[B")), (1220, (Term.field (Term.string "ButtonReef$Verb" 56) "java/lang/String" "value" "[B")), (1221, (Term.field (Term.string "ButtonReef$Verb" 62) "java/lang/String" "value" "[B")), (1222, (Term.field (Term.string "ButtonReef$Verb" 65) "java/lang/String" "value" "[B")), (1223, (Term.field (Term.string "ButtonReef$Verb" 68) "java/lang/String" "value" "[B")), (1224, (Term.field (Term.string "ButtonReef$Verb" 71) "java/lang/String" "value" "[B")), (1225, (Term.field (Term.string "ButtonReef$Verb" 74) "java/lang/String" "value" "[B")), (1226, (Term.field (Term.string "ButtonReef$Verb" 77) "java/lang/String" "value" "[B")), (1230, (Term.field (Term.string "ButtonReef" 318) "java/lang/String" "value" "[B")), (1231, (Term.field (Term.string "ButtonReef" 326) "java/lang/String" "value" "[B")), (1300, (Term.string "ButtonReef" 407)), (1301, (Term.string "ButtonReef" 409)), (1302, (Term.string "ButtonReef" 415)), (1303, (Term.string "ButtonReef" 134)), (1304, (Term.string "ButtonReef" 160)), (1305, (Term.string "ButtonReef" 413)), (1306, (Term.string "ButtonReef" 192)), (1307, (Term.string "ButtonReef" 214)), (1308, (Term.string "ButtonReef" 224)), (1309, (Term.string "ButtonReef" 236)), (1310, (Term.string "ButtonReef" 411)), (1311, (Term.string "ButtonReef" 270)), (1312, (Term.string "ButtonReef" 280)), (1313, (Term.string "ButtonReef" 286)), (1314, (Term.string "ButtonReef" 296)), (1315, (Term.string "ButtonReef" 331)), (1316, (Term.string "ButtonReef" 336)), (1317, (Term.string "ButtonReef" 341)), (1318, (Term.string "ButtonReef" 354)), (1319, (Term.string "ButtonReef" 365)), (1320, (Term.string "ButtonReef" 373)), (1321, (Term.string "ButtonReef" 376)), (1322, (Term.string "ButtonReef" 378)), (1323, (Term.string "ButtonReef" 380)), (1324, (Term.string "ButtonReef" 384)), (1325, (Term.string "ButtonReef" 389)), (1900, (Term.static "jdk/internal/util/Preconditions" "SIOOBE_FORMATTER" "Ljava/util/function/BiFunction;"))]
def tmOf (k : Nat) : Term := (tmL.lookup k).getD (.int 0)
def adO (b : Nat) (s : State) (k : Nat) : Nat := if k < 1000 then s.heap.size + k else if k = 1999 then b else match (tmOf k).eval #[Value.ref b] s none [] s with
  | some (.ref a) => a
  | _ => 0
def GG (D : va_G) (C : Nat → ClassId) (b : Nat) (s : State) : kG := (D.1, D.2, C, adO b s, s.heap.size)
theorem ad_ev {b : Nat} {s : State} {k a : Nat} (h1 : 1000 ≤ k) (h2 : k ≠ 1999) (h : (tmOf k).eval #[Value.ref b] s none [] s = some (.ref a)) : (tmOf k).eval #[Value.ref b] s none [] s = some (.ref (adO b s k)) := by
  have e : adO b s k = a := by
    unfold adO
    rw [if_neg (Nat.not_lt.mpr h1), if_neg h2, h]
  rw [e]; exact h
def cSx : List (String × Nat × String × Nat) := cS.filter fun q => Nat.ble 1300 q.2.2.2
def kP : List Nat := cO.map (fun q => q.2) ++ (cSx.map (fun q => q.2.2.2) ++ cT.map (fun q => q.2.1))
theorem kP_ok : ∀ k ∈ kP, 1000 ≤ k ∧ k ≠ 1999 := by decide +kernel
def isRv (v : Value) : Bool := match v with | .ref _ => true | _ => false
def isVv (v : Value) : Bool := match v with | .ref k => Nat.ble 1200 k | _ => false
def vt (v : Value) : Term := match v with | .int z => .int z | .ref k => tmOf k | _ => .int 0
def okv (v : Value) : Bool := match v with | .int _ => true | .ref k => kP.elem k | _ => false
set_option maxRecDepth 100000 in
theorem lm_O : ∀ q ∈ cO, Cond.exactly (tmOf q.2) q.1 ∈ nF := lz_F cO [4, 115, 129, 16, 85, 94, 104, 144, 159, 175, 192, 66, 58, 10, 867, 953, 961, 884, 915, 925, 939, 969, 979, 990, 1001, 905, 896, 875, 311, 317] nF (fun q => Cond.exactly (tmOf q.2) q.1) (by decide +kernel) (by decide +kernel)
set_option maxRecDepth 100000 in
theorem lm_Sx : ∀ q ∈ cSx, Cond.exactly (tmOf q.2.2.2) "java/lang/String" ∈ nF := lz_F cSx [323, 339, 357, 369, 388, 404, 424, 448, 465, 482, 515, 536, 556, 577, 591, 606, 636, 661, 682, 698, 736, 761, 780, 804, 831, 852] nF (fun q => Cond.exactly (tmOf q.2.2.2) "java/lang/String") (by decide +kernel) (by decide +kernel)
set_option maxRecDepth 100000 in
theorem lm_Tl : ∀ q ∈ cT, Cond.eq (.length (tmOf q.2.1)) (.int (Int32.ofNat q.2.2.1)) ∈ nF := lz_F cT [41, 32, 49, 77, 870, 956, 964, 887, 918, 928, 942, 972, 982, 993, 1004, 908, 899, 878, 314, 320] nF (fun q => Cond.eq (.length (tmOf q.2.1)) (.int (Int32.ofNat q.2.2.1))) (by decide +kernel) (by decide +kernel)
set_option maxRecDepth 100000 in
theorem lm_Ta : ∀ q ∈ cT, Cond.arrayOf (tmOf q.2.1) q.1 ∈ nF := lz_F cT [40, 31, 48, 76, 869, 955, 963, 886, 917, 927, 941, 971, 981, 992, 1003, 907, 898, 877, 313, 319] nF (fun q => Cond.arrayOf (tmOf q.2.1) q.1) (by decide +kernel) (by decide +kernel)
theorem lm_TN : ∀ q ∈ cT, q.2.2.1 < 2147483648 ∧ q.2.1 ∈ kP := by decide +kernel
def cTe : List ((FieldType × Nat × Nat × (Nat → Value)) × Nat) := cT.flatMap fun q => (List.range q.2.2.1).map fun j => (q, j)
set_option maxRecDepth 100000 in
theorem lm_Te : ∀ p ∈ cTe, Cond.eq (.elem (tmOf p.1.2.1) (.int (Int32.ofNat p.2))) (vt (p.1.2.2.2 p.2)) ∈ nF := lz_F cTe [43, 44, 45, 34, 35, 36, 37, 51, 52, 53, 54, 55, 56, 57, 78, 79, 80, 81, 82, 83, 84, 871, 872, 873, 874, 957, 958, 959, 960, 965, 966, 967, 968, 888, 889, 890, 891, 892, 893, 894, 895, 919, 920, 921, 922, 923, 924, 929, 930, 931, 932, 933, 934, 935, 936, 937, 938, 943, 944, 945, 946, 947, 948, 949, 950, 951, 952, 973, 974, 975, 976, 977, 978, 983, 984, 985, 986, 987, 988, 989, 994, 995, 996, 997, 998, 999, 1000, 1005, 1006, 1007, 1008, 1009, 1010, 1011, 909, 910, 911, 912, 913, 914, 900, 901, 902, 903, 904, 879, 880, 881, 882, 883, 315, 316, 321, 322] nF (fun p => Cond.eq (.elem (tmOf p.1.2.1) (.int (Int32.ofNat p.2))) (vt (p.1.2.2.2 p.2))) (by decide +kernel) (by decide +kernel)
theorem lm_Tv : ∀ p ∈ cTe, okv (p.1.2.2.2 p.2) = true := by decide +kernel
set_option maxRecDepth 100000 in
theorem lm_Zl : ∀ q ∈ cZ, Cond.laysStatic q.1 q.2.1 q.2.2.1 ∈ tables_1 := lz_F cZ [45, 1828, 1829, 156, 1825, 1826, 1827, 1830, 1831, 1832, 1833, 1141, 1114, 154, 744, 699, 1097, 1173, 403, 437, 439, 441] tables_1 (fun q => Cond.laysStatic q.1 q.2.1 q.2.2.1) (by decide +kernel) (by decide +kernel)
set_option maxRecDepth 100000 in
theorem lm_Zi : ∀ q ∈ cZ, Cond.initialized q.1 ∈ tables_1 := lz_F cZ [4, 4, 4, 11, 11, 11, 11, 10, 10, 10, 10, 10, 10, 10, 1, 1, 1, 29, 18, 25, 25, 25] tables_1 (fun q => Cond.initialized q.1) (by decide +kernel) (by decide +kernel)
theorem lm_Zk : ∀ q ∈ cZ, okv q.2.2.2 = true := by decide +kernel
theorem lm_Zr : ∀ q ∈ cZ.filter (fun q => isRv q.2.2.2), vt q.2.2.2 = Term.static q.1 q.2.1 q.2.2.1 := by decide +kernel
set_option maxRecDepth 100000 in
theorem lm_Ze : ∀ q ∈ cZ.filter (fun q => !isRv q.2.2.2), Cond.eq (.static q.1 q.2.1 q.2.2.1) (vt q.2.2.2) ∈ nF := lz_F (cZ.filter (fun q => !isRv q.2.2.2)) [22, 24, 25, 26] nF (fun q => Cond.eq (.static q.1 q.2.1 q.2.2.1) (vt q.2.2.2)) (by decide +kernel) (by decide +kernel)
theorem lm_Ok : ∀ q ∈ cO, q.2 ∈ kP := by decide +kernel
theorem lm_Fk : ∀ q ∈ cF, okv q.2.2.2.1 = true ∧ q.2.2.2.2 ∈ kP := by decide +kernel
theorem lm_F2 : ∀ q ∈ cF.filter (fun q => isVv q.2.2.2.1), vt q.2.2.2.1 = Term.field (tmOf q.2.2.2.2) q.1 q.2.1 q.2.2.1 := by decide +kernel
set_option maxRecDepth 100000 in
theorem lm_F1 : ∀ q ∈ cF.filter (fun q => !isVv q.2.2.2.1), Cond.eq (.field (tmOf q.2.2.2.2) q.1 q.2.1 q.2.2.1) (vt q.2.2.2.1) ∈ nF := lz_F (cF.filter (fun q => !isVv q.2.2.2.1)) [5, 6, 7, 8, 9, 116, 117, 118, 119, 120, 130, 131, 132, 133, 134, 17, 18, 19, 86, 87, 88, 95, 96, 97, 105, 106, 107, 145, 146, 147, 148, 160, 161, 162, 163, 176, 177, 178, 179, 193, 194, 195, 196, 67, 68, 69, 70, 59, 60, 61, 62, 11, 12, 13, 14, 868, 954, 962, 885, 916, 926, 940, 970, 980, 991, 1002, 906, 897, 876, 312, 318] nF (fun q => Cond.eq (.field (tmOf q.2.2.2.2) q.1 q.2.1 q.2.2.1) (vt q.2.2.2.1)) (by decide +kernel) (by decide +kernel)
set_option maxRecDepth 100000 in
theorem lm_X : ∀ q ∈ cX, Cond.not (.castable q.1 q.2) ∈ nF := lz_F cX [210, 211, 212, 213, 214, 215, 216, 217, 218, 219, 220, 221, 222, 223, 224, 225, 226, 227, 228, 229, 230, 231, 232, 233, 234, 235, 236, 237, 238, 239, 240, 241, 242, 243, 244, 245, 246, 247, 248, 249, 250, 251, 252, 253, 254, 255, 256, 257, 258, 259, 260, 261, 262, 263, 264, 265, 266, 267, 268, 269, 270, 271, 272, 273, 274, 275, 276, 277, 278, 279, 280, 281, 282, 283, 284, 285, 286, 287, 288, 289, 290, 291, 292, 293, 294, 295, 296, 297, 298, 299, 300, 301, 302, 303, 304, 305, 306, 307, 308, 309, 310] nF (fun q => Cond.not (.castable q.1 q.2)) (by decide +kernel) (by decide +kernel)
set_option maxRecDepth 100000 in
theorem lm_S : ∀ q ∈ cS, Cond.stringRef q.1 q.2.1 q.2.2.1 ∈ tables_1 := lz_F cS [1822, 1839, 1840, 1824, 1836, 1837, 1838, 1841, 1842, 1843, 1844, 1835, 1834, 1823, 446, 451, 565, 582, 611, 700, 745, 793, 833, 870, 916, 929, 940, 969, 1004, 1017, 1025, 1039, 1052, 1062, 1160, 1184, 1185, 1193, 1201, 1216, 1224, 1237] tables_1 (fun q => Cond.stringRef q.1 q.2.1 q.2.2.1) (by decide +kernel) (by decide +kernel)
theorem lm_Sk : ∀ q ∈ cS, q.2.2.2 ∈ kP ∧ tmOf q.2.2.2 = Term.string q.1 q.2.1 := by decide +kernel
set_option maxRecDepth 100000 in
theorem lm_Nm : ∀ q ∈ cNm, Cond.methodLinkNest q.1 q.2.1 q.2.2.1 q.2.2.2 ∈ tables_1 := lz_F cNm [40, 93, 107, 112, 119, 135, 149, 257, 324, 327, 375, 720, 721, 882, 1146, 1151, 1171] tables_1 (fun q => Cond.methodLinkNest q.1 q.2.1 q.2.2.1 q.2.2.2) (by decide +kernel) (by decide +kernel)
set_option maxRecDepth 100000 in
theorem lm_Nf : ∀ q ∈ cNf, Cond.fieldLinkNest q.1 q.2.1 q.2.2.1 q.2.2.2.1 q.2.2.2.2.1 q.2.2.2.2.2 ∈ tables_1 := lz_F cNf [1096, 1119] tables_1 (fun q => Cond.fieldLinkNest q.1 q.2.1 q.2.2.1 q.2.2.2.1 q.2.2.2.2.1 q.2.2.2.2.2) (by decide +kernel) (by decide +kernel)
set_option maxRecDepth 100000 in
theorem lm_Nc : ∀ q ∈ cNc, Cond.castable q.1 q.2 ∈ tables_1 := lz_F cNc [522, 558, 575, 604, 786, 997, 1055, 1786, 1787, 1788, 1789, 1790, 1791, 1792, 1793, 1794, 1795, 1796, 1797, 1798, 1799, 1800, 1801, 1802, 1803, 1804, 1805, 1806] tables_1 (fun q => Cond.castable q.1 q.2) (by decide +kernel) (by decide +kernel)
set_option maxRecDepth 100000 in
theorem lm_Nd : ∀ q ∈ cNd, Cond.declares q ∈ tables_1 := lz_F cNd [523, 524, 525, 526, 527, 528, 529, 530, 1176] tables_1 (fun q => Cond.declares q) (by decide +kernel) (by decide +kernel)
def cPr : List (Nat × Nat × Nat) := [(1000, 1001, 121), (1000, 1002, 135), (1000, 1010, 20), (1000, 1011, 89), (1000, 1012, 98), (1000, 1013, 108), (1000, 1020, 149), (1000, 1021, 164), (1000, 1022, 180), (1000, 1023, 197), (1000, 1024, 71), (1000, 1025, 63), (1000, 1026, 15), (1001, 1002, 143), (1010, 1001, 123), (1011, 1001, 126), (1012, 1001, 127), (1013, 1001, 128), (1001, 1020, 157), (1001, 1021, 172), (1001, 1022, 188), (1001, 1023, 205), (1024, 1001, 125), (1025, 1001, 124), (1026, 1001, 122), (1010, 1002, 137), (1011, 1002, 140), (1012, 1002, 141), (1013, 1002, 142), (1002, 1020, 158), (1002, 1021, 173), (1002, 1022, 189), (1002, 1023, 206), (1024, 1002, 139), (1025, 1002, 138), (1026, 1002, 136), (1010, 1011, 91), (1010, 1012, 100), (1010, 1013, 110), (1010, 1020, 151), (1010, 1021, 166), (1010, 1022, 182), (1010, 1023, 199), (1010, 1024, 73), (1010, 1025, 65), (1026, 1010, 21), (1011, 1012, 103), (1011, 1013, 113), (1011, 1020, 154), (1011, 1021, 169), (1011, 1022, 185), (1011, 1023, 202), (1024, 1011, 93), (1025, 1011, 92), (1026, 1011, 90), (1012, 1013, 114), (1012, 1020, 155), (1012, 1021, 170), (1012, 1022, 186), (1012, 1023, 203), (1024, 1012, 102), (1025, 1012, 101), (1026, 1012, 99), (1013, 1020, 156), (1013, 1021, 171), (1013, 1022, 187), (1013, 1023, 204), (1024, 1013, 112), (1025, 1013, 111), (1026, 1013, 109), (1020, 1021, 174), (1020, 1022, 190), (1020, 1023, 207), (1024, 1020, 153), (1025, 1020, 152), (1026, 1020, 150), (1021, 1022, 191), (1021, 1023, 208), (1024, 1021, 168), (1025, 1021, 167), (1026, 1021, 165), (1022, 1023, 209), (1024, 1022, 184), (1025, 1022, 183), (1026, 1022, 181), (1024, 1023, 201), (1025, 1023, 200), (1026, 1023, 198), (1025, 1024, 74), (1026, 1024, 72), (1026, 1025, 64)]
set_option maxRecDepth 100000 in
theorem lm_I : ∀ p ∈ cPr, nF[p.2.2]? = some (Cond.not (.eq (tmOf p.1) (tmOf p.2.1))) := by decide +kernel
theorem lm_J : ∀ i ∈ cE, ∀ j ∈ cE, i = j ∨ ∃ p ∈ cPr, (p.1 = i ∧ p.2.1 = j) ∨ (p.1 = j ∧ p.2.1 = i) := by decide +kernel
theorem lm_Ek : ∀ i ∈ cE, i ∈ kP := by decide +kernel
theorem lm_t {w : Cond} (i : Nat) (h : tables_1[i]? = some w) : w ∈ tables_1 := List.mem_of_getElem? h
theorem lm_n {w : Cond} (i : Nat) (h : nF[i]? = some w) : w ∈ nF := List.mem_of_getElem? h
theorem lm_ao : Cond.arrayOver (.object "ButtonReef$State") ∈ tables_1 := lm_t 92 (by decide +kernel)
theorem lm_tg : ∀ w ∈ TG, w ∈ lw_tbl := fun w h => (List.mem_filter.mp h).1
theorem lm_tb : ∀ w ∈ tables_1, w ∈ lw_tbl := fun w h => List.mem_append.mpr (Or.inr h)
section EVS
variable {b : Nat} {s : State}
theorem lev_ad (hn : ∀ w ∈ nF, w.before #[Value.ref b] s = true) : ∀ k ∈ kP, (tmOf k).eval #[Value.ref b] s none [] s = some (.ref (adO b s k)) := by
  intro k hk
  obtain ⟨h1, h2⟩ := kP_ok k hk
  rcases List.mem_append.mp hk with h | h
  · obtain ⟨q, hq, rfl⟩ := List.mem_map.mp h
    obtain ⟨a2, x1, x2, x3, q1, -⟩ := Cond.exactly_spec (args := #[Value.ref b]) (first := s) (o := none) (s := s) (idx := []) (t := tmOf q.2) (cls := q.1) (hn _ (lm_O q hq))
    exact ad_ev h1 h2 q1
  · rcases List.mem_append.mp h with h | h
    · obtain ⟨q, hq, rfl⟩ := List.mem_map.mp h
      obtain ⟨a2, x1, x2, x3, q1, -⟩ := Cond.exactly_spec (args := #[Value.ref b]) (first := s) (o := none) (s := s) (idx := []) (t := tmOf q.2.2.2) (cls := "java/lang/String") (hn _ (lm_Sx q hq))
      exact ad_ev h1 h2 q1
    · obtain ⟨q, hq, rfl⟩ := List.mem_map.mp h
      obtain ⟨a2, x1, q1, -⟩ := Term.length_spec (va_eqt (hn _ (lm_Tl q hq)))
      exact ad_ev h1 h2 q1
theorem vt_ev (hn : ∀ w ∈ nF, w.before #[Value.ref b] s = true) (D : va_G) (C : Nat → ClassId) {v : Value} (h : okv v = true) : (vt v).eval #[Value.ref b] s none [] s = some (rv (GG D C b s) v) := by
  cases v with
  | int z => rfl
  | ref k => exact lev_ad hn k (List.elem_iff.mp h)
  | _ => exact absurd (show false = true from h) (by decide)
theorem lev_hA (D : va_G) (C : Nat → ClassId) (b : Nat) (s : State) : ∀ a : Nat, a < s.heap.size → ¬ AG (GG D C b s) a := fun a ha h => Nat.not_lt.mpr (show s.heap.size ≤ a from h) ha
theorem lev_cZ (hn : ∀ w ∈ nF, w.before #[Value.ref b] s = true) (ht : ∀ w ∈ tables_1, w.before #[Value.ref b] s = true) (D : va_G) (C : Nat → ClassId) : ∀ q ∈ cZ, va_Z q.1 q.2.1 q.2.2.1 (rv (GG D C b s) q.2.2.2) (AG (GG D C b s)) s s.heap := by
  intro q hq
  refine va_Zof (ht _ (lm_Zl q hq)) (ht _ (lm_Zi q hq)) ?_ (lev_hA D C b s)
  by_cases h : isRv q.2.2.2 = true
  · rw [← lm_Zr q (List.mem_filter.mpr ⟨hq, h⟩)]; exact vt_ev hn D C (lm_Zk q hq)
  · exact va_eqv (hn _ (lm_Ze q (List.mem_filter.mpr ⟨hq, by simp [h]⟩))) (vt_ev hn D C (lm_Zk q hq))
theorem lev_cO (hn : ∀ w ∈ nF, w.before #[Value.ref b] s = true) (D : va_G) (C : Nat → ClassId) : ∀ q ∈ cO, va_O q.1 (gA (GG D C b s) q.2) (AG (GG D C b s)) s s.heap := fun q hq => va_Oof (hn _ (lm_O q hq)) (lev_ad hn q.2 (lm_Ok q hq)) (lev_hA D C b s)
theorem lev_cF (hn : ∀ w ∈ nF, w.before #[Value.ref b] s = true) (D : va_G) (C : Nat → ClassId) : ∀ q ∈ cF, va_OF q.1 q.2.1 q.2.2.1 (rv (GG D C b s) q.2.2.2.1) (gA (GG D C b s) q.2.2.2.2) (AG (GG D C b s)) s s.heap := by
  intro q hq
  obtain ⟨k1, k2⟩ := lm_Fk q hq
  refine vk_OFof (lev_ad hn _ k2) ?_ (lev_hA D C b s)
  by_cases h : isVv q.2.2.2.1 = true
  · rw [← lm_F2 q (List.mem_filter.mpr ⟨hq, h⟩)]; exact vt_ev hn D C k1
  · exact va_eqv (hn _ (lm_F1 q (List.mem_filter.mpr ⟨hq, by simp [h]⟩))) (vt_ev hn D C k1)
theorem lev_cT (hn : ∀ w ∈ nF, w.before #[Value.ref b] s = true) (D : va_G) (C : Nat → ClassId) : ∀ q ∈ cT, va_T q.1 (gA (GG D C b s) q.2.1) q.2.2.1 (fun j => rv (GG D C b s) (q.2.2.2 j)) (AG (GG D C b s)) s s.heap := by
  intro q hq
  obtain ⟨k1, k2⟩ := lm_TN q hq
  obtain ⟨t, h1, h2⟩ := va_Tof (N := q.2.2.1) (f := fun j => rv (GG D C b s) (q.2.2.2 j)) (A := AG (GG D C b s)) k1 (hn _ (lm_Ta q hq)) (va_eqt (hn _ (lm_Tl q hq))) (fun j hj => by
    have hm : (q, j) ∈ cTe := List.mem_flatMap.mpr ⟨q, hq, List.mem_map.mpr ⟨j, List.mem_range.mpr hj, rfl⟩⟩
    exact va_eqv (hn _ (lm_Te (q, j) hm)) (vt_ev hn D C (lm_Tv (q, j) hm))) (lev_hA D C b s)
  have e : t = adO b s q.2.1 := Value.ref.inj (Option.some.inj (h1.symm.trans (lev_ad hn _ k2)))
  subst e
  exact h2
theorem lev_zQ (hn : ∀ w ∈ nF, w.before #[Value.ref b] s = true) (ht : ∀ w ∈ tables_1, w.before #[Value.ref b] s = true) (D : va_G) (C : Nat → ClassId) : zQ (GG D C b s) s s.heap := by
  have hl := ht (Cond.laysStatic "jdk/internal/util/Preconditions" "SIOOBE_FORMATTER" "Ljava/util/function/BiFunction;") (lm_t 419 (by decide +kernel))
  have hini := ht (Cond.initialized "jdk/internal/util/Preconditions") (lm_t 24 (by decide +kernel))
  have h := hn (Cond.isRef (.static "jdk/internal/util/Preconditions" "SIOOBE_FORMATTER" "Ljava/util/function/BiFunction;")) (lm_n 23 (by decide +kernel))
  cases hv : (Term.static "jdk/internal/util/Preconditions" "SIOOBE_FORMATTER" "Ljava/util/function/BiFunction;").eval #[Value.ref b] s none [] s with
  | none => simp [Cond.before, Cond.holds, Cond.value, hv] at h
  | some w =>
    simp only [Cond.before, Cond.holds, Cond.value, hv] at h
    cases w with
    | null => exact Or.inl (va_Zof hl hini hv (lev_hA D C b s))
    | ref t =>
      have e9 : tmOf 1900 = Term.static "jdk/internal/util/Preconditions" "SIOOBE_FORMATTER" "Ljava/util/function/BiFunction;" := by decide +kernel
      rw [← e9] at hv
      have h9 := ad_ev (k := 1900) (by decide) (by decide) hv
      rw [e9] at h9
      exact Or.inr (va_Zof hl hini h9 (lev_hA D C b s))
    | _ => simp at h
theorem lev_CsH (hn : ∀ w ∈ nF, w.before #[Value.ref b] s = true) (ht : ∀ w ∈ tables_1, w.before #[Value.ref b] s = true) (D : va_G) (C : Nat → ClassId) : CsH (GG D C b s) s s.heap :=
  ⟨lev_cZ hn ht D C, lev_cO hn D C, lev_cF hn D C, lev_cT hn D C, lev_zQ hn ht D C,
    vx_Zqof (ht (Cond.laysStatic "java/lang/Throwable" "UNASSIGNED_STACK" "[Ljava/lang/StackTraceElement;") (lm_t 485 (by decide +kernel))) (ht (Cond.initialized "java/lang/Throwable") (lm_t 13 (by decide +kernel))) (hn (Cond.isRef (.static "java/lang/Throwable" "UNASSIGNED_STACK" "[Ljava/lang/StackTraceElement;")) (lm_n 27 (by decide +kernel))) (lev_hA D C b s),
    vx_Zqof (ht (Cond.laysStatic "java/lang/Throwable" "SUPPRESSED_SENTINEL" "Ljava/util/List;") (lm_t 487 (by decide +kernel))) (ht (Cond.initialized "java/lang/Throwable") (lm_t 13 (by decide +kernel))) (hn (Cond.isRef (.static "java/lang/Throwable" "SUPPRESSED_SENTINEL" "Ljava/util/List;")) (lm_n 28 (by decide +kernel))) (lev_hA D C b s)⟩
theorem lev_CsV (hn : ∀ w ∈ nF, w.before #[Value.ref b] s = true) (ht : ∀ w ∈ tables_1, w.before #[Value.ref b] s = true) (D : va_G) (C : Nat → ClassId) : CsV (GG D C b s) s :=
  ⟨fun q hq => va_Nw.of rfl (ht _ (lm_Nm q hq)), fun q hq => va_Nw.of rfl (ht _ (lm_Nf q hq)), fun q hq => va_Nw.of rfl (ht _ (lm_Nc q hq)), fun q hq => va_Nc.of (hn _ (lm_X q hq)),
    fun q hq => vk_R.of (ht _ (lm_S q hq)) (by rw [← (lm_Sk q hq).2]; exact lev_ad hn _ (lm_Sk q hq).1), fun q hq => va_Nw.of rfl (ht _ (lm_Nd q hq))⟩
theorem lev_CsI (hn : ∀ w ∈ nF, w.before #[Value.ref b] s = true) (D : va_G) (C : Nat → ClassId) : CsI (GG D C b s) := by
  intro i j hi hj he
  rcases lm_J i hi j hj with h | ⟨p, hp, h⟩
  · exact h
  · exfalso
    have hw := hn _ (List.mem_of_getElem? (lm_I p hp))
    rcases h with ⟨rfl, rfl⟩ | ⟨rfl, rfl⟩
    · exact va_neR hw (lev_ad hn _ (lm_Ek _ hi)) (lev_ad hn _ (lm_Ek _ hj)) he
    · exact va_neR hw (lev_ad hn _ (lm_Ek _ hj)) (lev_ad hn _ (lm_Ek _ hi)) he.symm
end EVS
theorem lev_Ev {b : Nat} {s : State} (hts : ∀ w ∈ lw_tbl, w.before #[Value.ref b] s = true) (hgv : (Jvm.Cond.and given_1 narrow_1).before #[Value.ref b] s = true) : ∃ G : kG, Ev G s s.heap ∧ gA G 1999 = b ∧ gB G = s.heap.size ∧ va_AO "ButtonReef$State" s := by
  have hn : ∀ w ∈ nF, w.before #[Value.ref b] s = true := flat_of_before _ hgv
  have ht : ∀ w ∈ tables_1, w.before #[Value.ref b] s = true := fun w hw => hts w (lm_tb w hw)
  have hg : ∀ w ∈ TG, w.before #[Value.ref b] s = true := fun w hw => hts w (lm_tg w hw)
  obtain ⟨D, hD⟩ := lev_D hg
  obtain ⟨C, hC⟩ := lev_T hg (ht _ lm_ao)
  refine ⟨GG D C b s, ⟨⟨hD, hC⟩, lev_CsV hn ht D C, lev_CsH hn ht D C, lev_CsI hn D C, ?_⟩, ?_, rfl, va_AO.of (ht _ lm_ao)⟩
  · intro k hk
    show adO b s k = s.heap.size + k
    unfold adO
    rw [if_pos hk]
  · show adO b s 1999 = b
    first | rfl | (unfold adO; simp)
end LEV2
