def AWp : List Nat := [117, 625, 157, 319, 122, 231, 265, 151, 212, 225, 313, 356, 458, 454, 481, 617, 621, 630, 641, 809, 1005, 529, 511, 523, 519, 503, 515, 533, 470, 474, 466, 499, 1311, 1307, 1395, 1501, 1315, 1446, 1443, 1431, 1493, 1541, 1183, 1187, 1179, 637, 853, 938, 1001, 1020, 805, 1028, 1044, 1063, 550, 114, 1085, 450, 1299, 1303, 1295, 1319, 1391, 1411, 1450, 1497, 1509, 1513, 1521, 1529, 462, 1537, 538, 1545, 542, 1549]
def AWr : List Nat := [123, 116, 142, 124, 131, 622, 623, 624, 85, 158, 177, 159, 161, 163, 165, 266, 267, 154, 87, 268, 156, 269, 207, 271, 357, 360, 362, 364, 366, 358, 359, 368, 370, 372, 213, 214, 215, 232, 233, 234, 235, 236, 237, 238, 239, 240, 320, 321, 322, 314, 315, 316, 93, 317, 318, 333, 331, 119, 332, 121, 334, 336, 338, 339, 152, 153, 155, 182, 184, 178, 186, 188, 190, 226, 227, 228, 90, 229, 230, 278, 279, 280, 281, 282, 283, 284, 258, 259, 285, 260, 286, 262, 91, 263, 264, 115, 118, 120, 389, 390, 391, 392, 143, 396, 145, 397, 147, 148, 86, 149, 150, 398, 399, 208, 209, 88, 210, 211, 400, 221, 222, 89, 223, 224, 401, 309, 310, 92, 311, 312, 402, 351, 403, 404, 405, 352, 406, 407, 353, 94, 354, 355, 455, 456, 457, 132, 451, 453, 0, 84, 478, 479, 480, 180, 181, 614, 616, 7, 618, 619, 620, 627, 629, 8, 394, 810, 103, 551, 99, 638, 640, 9, 806, 808, 19, 1002, 1004, 29, 526, 528, 5, 509, 510, 101, 524, 323, 520, 522, 4, 504, 506, 508, 507, 102, 133, 516, 517, 518, 534, 500, 501, 502, 512, 513, 514, 530, 531, 532, 467, 469, 2, 393, 395, 471, 473, 3, 463, 465, 1, 496, 497, 498, 1196, 1218, 1205, 1206, 1203, 1308, 1310, 38, 95, 1304, 1306, 37, 1392, 1394, 57, 1498, 1500, 77, 1219, 1312, 1314, 39, 1208, 1216, 1444, 1445, 1188, 1217, 1212, 1432, 1433, 1434, 1435, 1436, 1437, 1438, 1439, 1440, 1442, 66, 1213, 1220, 1428, 1430, 65, 1490, 1492, 76, 1210, 1538, 1540, 82, 1202, 1204, 1198, 1175, 1197, 1180, 1182, 35, 1184, 1186, 36, 1199, 1086, 1087, 1088, 1089, 1090, 1091, 1092, 1093, 1094, 1095, 1096, 1097, 1098, 1099, 1100, 1101, 1102, 1103, 1104, 1105, 1106, 1107, 1108, 1109, 1110, 1111, 1112, 1113, 1114, 1115, 1116, 1117, 1118, 1119, 1120, 1121, 1122, 1123, 1124, 1125, 1126, 1127, 1128, 1129, 1130, 1131, 1132, 1133, 1134, 1135, 1136, 1137, 1138, 1139, 1140, 1141, 1142, 1143, 1144, 1145, 1146, 1147, 1148, 1149, 1150, 1151, 1152, 1153, 1189, 1154, 1155, 1156, 1157, 1158, 1159, 1190, 1160, 1161, 1162, 1163, 1164, 1191, 1165, 1166, 1167, 1168, 1169, 1170, 1171, 1172, 1173, 1174, 1192, 1193, 1194, 1195, 1291, 1200, 1207, 1209, 1211, 1214, 1215, 1176, 1178, 34, 634, 635, 636, 546, 850, 851, 852, 800, 935, 936, 937, 998, 999, 1000, 1017, 1018, 1019, 802, 803, 804, 1025, 1026, 1027, 1041, 1042, 1043, 1060, 1061, 1062, 547, 548, 549, 110, 111, 112, 113, 1081, 1082, 1083, 1084, 447, 448, 449, 1296, 1297, 1298, 545, 543, 544, 83, 1300, 1301, 1302, 1292, 1293, 1294, 633, 631, 632, 1316, 1317, 1318, 799, 797, 798, 1388, 1389, 1390, 849, 847, 848, 1408, 1409, 1410, 934, 932, 933, 1447, 1448, 1449, 997, 995, 996, 1494, 1495, 1496, 1016, 1014, 1015, 1506, 1507, 1508, 1024, 1022, 1023, 1510, 1511, 1512, 1040, 1038, 1039, 1518, 1519, 1520, 1059, 1057, 1058, 1526, 1527, 1528, 459, 460, 461, 1534, 1535, 1536, 535, 536, 537, 1542, 1543, 1544, 539, 540, 541, 1546, 1547, 1548, 408, 410, 412, 414, 416, 418, 420, 422, 424, 426, 428, 430, 432, 434, 436, 438, 440, 442, 444, 137, 139, 192, 194, 196, 198, 200, 202, 204, 216, 218, 241, 243, 245, 247, 249, 251, 253, 255, 288, 290, 292, 294, 296, 298, 300, 302, 304, 306, 168, 170, 172, 174, 273, 275, 374, 376, 378, 380, 382, 384, 386, 340, 342, 344, 346, 348, 324, 326, 328, 1222, 1224, 1226, 1228, 1230, 1232, 1234, 1236, 1238, 1240, 1242, 1244, 1246, 1248, 1250, 1252, 1254, 1256, 1258, 1260, 1262, 1264, 1266, 1268, 1270, 1272, 1274, 1276, 1278, 1280, 1282, 1284, 1286, 1288]
set_option maxRecDepth 100000 in
set_option maxHeartbeats 4000000 in
theorem aw_code : AW0.filter k2_isCode = AWp.filterMap (fun i => lw_tbl[i]?) := rfl
set_option maxRecDepth 100000 in
set_option maxHeartbeats 4000000 in
theorem aw_rest : AW0.filter (fun w => !k2_isCode w) = AWr.filterMap (fun i => lw_tbl[i]?) := by decide +kernel
set_option maxRecDepth 100000 in
set_option maxHeartbeats 4000000 in
theorem aw_x0 : ∀ w ∈ AX_0, w ∈ lw_tbl := by decide +kernel
set_option maxRecDepth 100000 in
set_option maxHeartbeats 4000000 in
theorem aw_x1 : ∀ w ∈ AX_1, w ∈ lw_tbl := by decide +kernel
theorem aw_tbl : ∀ w ∈ AW, w ∈ lw_tbl := by
  intro w hw
  rcases List.mem_append.mp hw with h | h
  · by_cases hc : k2_isCode w = true
    · have h1 : w ∈ AW0.filter k2_isCode := List.mem_filter.mpr ⟨h, hc⟩
      rw [aw_code] at h1
      obtain ⟨i, -, hi⟩ := List.mem_filterMap.mp h1
      exact List.mem_of_getElem? hi
    · have h1 : w ∈ AW0.filter (fun w => !k2_isCode w) := List.mem_filter.mpr ⟨h, by simpa using hc⟩
      rw [aw_rest] at h1
      obtain ⟨i, -, hi⟩ := List.mem_filterMap.mp h1
      exact List.mem_of_getElem? hi
  · rcases List.mem_append.mp h with h | h
    · exact aw_x0 w h
    · exact aw_x1 w h
theorem kT_of {n d : String} {args : Array Value} {s : State} {A : Nat → Prop} (hl : (Cond.laysStatic "java/lang/Throwable" n d).before args s = true) (h : (Cond.isRef (.static "java/lang/Throwable" n d)).before args s = true) (hA : ∀ a : Nat, a < s.heap.size → ¬ A a) : kT n d A s s.heap := by
  obtain ⟨c, k, i, f, a, cell, hc, hi, hst, ha, hcell, hs, hcls, hlt, hty⟩ := Cond.laysStatic_spec hl
  cases hv : (Term.static "java/lang/Throwable" n d).eval args s none [] s with
  | none => simp [Cond.before, Cond.holds, Cond.value, hv] at h
  | some w =>
    obtain ⟨hst', a', cell', ha', hcell', -, hslot⟩ := Term.static_spec hi hv
    cases ha.symm.trans ha'
    cases hcell.symm.trans hcell'
    simp only [Cond.before, Cond.holds, Cond.value, hv] at h
    refine ⟨c, k, i, f, a, cell, w, hc, hi, hst, ha, hcell, hs, hcls, hlt, hty, hslot, ?_, hA a (Array.getElem?_eq_some_iff.mp hcell).1⟩
    cases w <;> simp_all [Value.isRef]
def z_START : List Int32 := [1779033703, -1150833019, 1013904242, -1521486534, 1359893119, -1694144372, 528734635, 1541459225]
set_option maxRecDepth 100000 in
set_option maxHeartbeats 4000000 in
theorem z_START_in : ∀ j, j < 8 → Cond.eq (.elem (Term.static "ThresholdBench$Sha" "START" "[I") (.int (Int32.ofNat j))) (.int (z_START.getD j 0)) ∈ flatC (.and given_1 narrow_1) := by decide +kernel
def z_ROUND : List Int32 := [1116352408, 1899447441, -1245643825, -373957723, 961987163, 1508970993, -1841331548, -1424204075, -670586216, 310598401, 607225278, 1426881987, 1925078388, -2132889090, -1680079193, -1046744716, -459576895, -272742522, 264347078, 604807628, 770255983, 1249150122, 1555081692, 1996064986, -1740746414, -1473132947, -1341970488, -1084653625, -958395405, -710438585, 113926993, 338241895, 666307205, 773529912, 1294757372, 1396182291, 1695183700, 1986661051, -2117940946, -1838011259, -1564481375, -1474664885, -1035236496, -949202525, -778901479, -694614492, -200395387, 275423344, 430227734, 506948616, 659060556, 883997877, 958139571, 1322822218, 1537002063, 1747873779, 1955562222, 2024104815, -2067236844, -1933114872, -1866530822, -1538233109, -1090935817, -965641998]
set_option maxRecDepth 100000 in
set_option maxHeartbeats 4000000 in
theorem z_ROUND_in : ∀ j, j < 64 → Cond.eq (.elem (Term.static "ThresholdBench$Sha" "ROUND" "[I") (.int (Int32.ofNat j))) (.int (z_ROUND.getD j 0)) ∈ flatC (.and given_1 narrow_1) := by decide +kernel
set_option maxRecDepth 100000 in
set_option maxHeartbeats 4000000 in
theorem zz_start {args : Array Value} {s : State} {A : Nat → Prop} (hA : ∀ a : Nat, a < s.heap.size → ¬ A a) (hts : ∀ w ∈ lw_tbl, w.before args s = true) (hg : (Jvm.Cond.and given_1 narrow_1).before args s = true) : zz A s s.heap := by
  have hs := flat_of_before _ hg
  refine ⟨kT_of (hts _ (by decide +kernel)) (hs _ (by decide +kernel)) hA, kT_of (hts _ (by decide +kernel)) (hs _ (by decide +kernel)) hA, ?_, ?_⟩
  · obtain ⟨t, ht, hT⟩ := va_Tof (tm := (Term.static "ThresholdBench$Sha" "START" "[I")) (ty := .int) (N := 8) (f := fun j => .int (z_START.getD j 0)) (A := A) (by decide) (hs _ (by decide +kernel)) (va_eqt (hs (.eq (.length (Term.static "ThresholdBench$Sha" "START" "[I")) (.int 8)) (by decide +kernel))) (fun j hj => va_eqt (hs _ (z_START_in j hj))) hA
    exact ⟨t, fun j => z_START.getD j 0, va_Zof (hts _ (by decide +kernel)) (hts (.initialized "ThresholdBench$Sha") (by decide +kernel)) ht hA, hT⟩
  · obtain ⟨t, ht, hT⟩ := va_Tof (tm := (Term.static "ThresholdBench$Sha" "ROUND" "[I")) (ty := .int) (N := 64) (f := fun j => .int (z_ROUND.getD j 0)) (A := A) (by decide) (hs _ (by decide +kernel)) (va_eqt (hs (.eq (.length (Term.static "ThresholdBench$Sha" "ROUND" "[I")) (.int 64)) (by decide +kernel))) (fun j hj => va_eqt (hs _ (z_ROUND_in j hj))) hA
    exact ⟨t, fun j => z_ROUND.getD j 0, va_Zof (hts _ (by decide +kernel)) (hts (.initialized "ThresholdBench$Sha") (by decide +kernel)) ht hA, hT⟩
set_option maxRecDepth 100000 in
set_option maxHeartbeats 4000000 in
theorem nn_start {args : Array Value} {s : State} (hts : ∀ w ∈ lw_tbl, w.before args s = true) : nn s :=
  ⟨va_Nw.of rfl (hts _ (by decide +kernel)), va_Nw.of rfl (hts _ (by decide +kernel)), va_Nw.of rfl (hts _ (by decide +kernel)), va_Nw.of rfl (hts _ (by decide +kernel)), va_Nw.of rfl (hts _ (by decide +kernel)), va_AO.of (hts _ (by decide +kernel)), va_AO.of (hts _ (by decide +kernel)), va_AO.of (hts _ (by decide +kernel)), va_AOA.of (hts _ (by decide +kernel))⟩
set_option maxRecDepth 100000 in
set_option maxHeartbeats 4000000 in
theorem whole_start {p : Program} {e : Env} {s : State} {m : MethodId} {below : List Frame} {meth : Method} {c : Code} (l : Launch) (hst : l.stackTraces = false) {b L : Nat} {xs : Nat → Int32} (hL : L ≤ 7) (C0 : lw_At p s m meth c b L xs) : W p l e room_1 s m #[Value.ref b] below meth c s.heap [] 0 0 (lw_Z below #[Value.ref b] s) (entryFrame m ([Value.ref b] : List Value).toArray 7) := by
  obtain ⟨hx, hb, hr, hml, hown, hts, hX, hbl, hlocks, hgv⟩ := C0
  have hA : ∀ a : Nat, a < s.heap.size → ¬ (fun q : Nat => s.heap.size ≤ q) a := fun a h => Nat.not_le.mpr h
  have hZ := zz_start hA hts hgv
  have hN := nn_start hts
  have htw : ∀ w ∈ AW, w.before #[Value.ref b] s = true := fun w h => hts w (aw_tbl w h)
  obtain ⟨c0, i0, hk0⟩ := u_known (C := R_TB) (T := F_TB) (N := 19) (n := 19) htw i_TB (htw _ m_480)
  obtain ⟨c1, i1, hk1⟩ := u_known (C := R_Row) (T := F_Row) (N := 2) (n := 2) htw i_Row (htw _ m_61)
  obtain ⟨c2, i2, hk2⟩ := u_known (C := R_Sig) (T := F_Sig) (N := 7) (n := 7) htw i_Sig (htw _ m_114)
  obtain ⟨c3, i3, hk3⟩ := u_known (C := R_Sca) (T := F_Sca) (N := 2) (n := 2) htw i_Sca (htw _ m_122)
  obtain ⟨c4, i4, hk4⟩ := u_known (C := R_Fie) (T := F_Fie) (N := 8) (n := 8) htw i_Fie (htw _ m_80)
  obtain ⟨c5, i5, hk5⟩ := u_known (C := R_Cur) (T := F_Cur) (N := 10) (n := 10) htw i_Cur (htw _ m_129)
  obtain ⟨c6, i6, hk6⟩ := u_known (C := R_Poi) (T := F_Poi) (N := 4) (n := 4) htw i_Poi (htw _ m_19)
  obtain ⟨c7, i7, hk7⟩ := u_known (C := R_Ter) (T := F_Ter) (N := 2) (n := 2) htw i_Ter (htw _ m_97)
  obtain ⟨c8, i8, hk8⟩ := u_known (C := R_Par) (T := F_Par) (N := 7) (n := 7) htw i_Par (htw _ m_149)
  obtain ⟨c9, i9, hk9⟩ := u_known (C := R_Dig) (T := F_Dig) (N := 5) (n := 5) htw i_Dig (htw _ m_136)
  obtain ⟨c10, i10, hk10⟩ := u_known (C := R_Sha) (T := F_Sha) (N := 3) (n := 3) htw i_Sha (htw _ m_54)
  obtain ⟨c11, i11, hk11⟩ := u_known (C := R_Mo) (T := F_Mo) (N := 34) (n := 34) htw i_Mo (htw _ m_485)
  obtain ⟨dC, dI, hKc⟩ : ∃ (dC : Nat → ClassId) (dI : Nat → Nat → Nat), ∀ (k : Nat) (q : vw_C), CL[k]? = some q → u_Kn s q.1 q.2.1 q.2.2 (dC k) (dI k) := by
    refine ⟨fun k => ([c0, c1, c2, c3, c4, c5, c6, c7, c8, c9, c10, c11] : List ClassId).getD k c0, fun k => ([i0, i1, i2, i3, i4, i5, i6, i7, i8, i9, i10, i11] : List (Nat → Nat)).getD k i0, ?_⟩
    intro k q hq
    match k, hq with
    | 0, hq => cases hq; exact hk0
    | 1, hq => cases hq; exact hk1
    | 2, hq => cases hq; exact hk2
    | 3, hq => cases hq; exact hk3
    | 4, hq => cases hq; exact hk4
    | 5, hq => cases hq; exact hk5
    | 6, hq => cases hq; exact hk6
    | 7, hq => cases hq; exact hk7
    | 8, hq => cases hq; exact hk8
    | 9, hq => cases hq; exact hk9
    | 10, hq => cases hq; exact hk10
    | 11, hq => cases hq; exact hk11
    | k + 12, hq => simp at hq
  have hK : va_K (dC, dI) CL [] s := ⟨hKc, fun k q h => by simp at h⟩
  rcases Nat.lt_or_ge L 7 with h7 | h7
  · exact law_short l hst h7 hx hb hr hml hown htw hX hbl hlocks hK hZ hN
  · obtain rfl : L = 7 := Nat.le_antisymm hL h7
    exact law_full l hst hx hb hr hml hown htw hX hbl hlocks hK hZ hN
