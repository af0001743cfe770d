def AWp : List Nat := [117, 625, 157, 319, 122, 231, 265, 151, 212, 225, 313, 356, 458, 454, 481, 617, 621, 630, 641, 809, 1005, 529, 511, 523, 519, 503, 515, 533, 470, 474, 466, 499, 1311, 1307, 1395, 1501, 1315, 1446, 1443, 1431, 1493, 1541, 1183, 1187, 1179, 637, 853, 938, 1001, 1020, 805, 1028, 1044, 1063, 550, 114, 1085, 450, 1299, 1303, 1295, 1319, 1391, 1411, 1450, 1497, 1509, 1513, 1521, 1529, 462, 1537, 538, 1545, 542, 1549]
set_option maxRecDepth 100000 in
set_option maxHeartbeats 4000000 in
theorem aw_code : AW0.filter k2_isCode = AWp.filterMap (fun i => lw_tbl[i]?) := by decide +kernel
set_option maxRecDepth 100000 in
set_option maxHeartbeats 4000000 in
theorem aw_rest : (AW0.filter (fun w => !k2_isCode w)).all (fun w => decide (w ∈ lw_tbl) && goodWord w) = true := by decide +kernel
set_option maxRecDepth 100000 in
set_option maxHeartbeats 4000000 in
theorem aw_x0 : ∀ w ∈ AX_0, w ∈ lw_tbl := by decide +kernel
set_option maxRecDepth 100000 in
set_option maxHeartbeats 4000000 in
theorem aw_x1 : ∀ w ∈ AX_1, w ∈ lw_tbl := by decide +kernel
theorem aw_tbl : ∀ w ∈ AW, w ∈ lw_tbl := by
  intro w hw
  rcases List.mem_append.mp hw with h | h
  · exact (goodIn_p (big := lw_tbl) AW0 AWp aw_code aw_rest w h).1
  · rcases List.mem_append.mp h with h | h
    · exact aw_x0 w h
    · exact aw_x1 w h
theorem kT_of {n d : String} {args : Array Value} {s : State} {A : Nat → Prop} (hl : (Cond.laysStatic "java/lang/Throwable" n d).before args s = true) (h : (Cond.isRef (.static "java/lang/Throwable" n d)).before args s = true) (hA : ∀ a : Nat, a < s.heap.size → ¬ A a) : kT n d A s s.heap := by
  obtain ⟨c, k, i, f, a, cell, hc, hi, hst, ha, hcell, hs, hcls, hlt, hty⟩ := Cond.laysStatic_spec hl
  cases hv : (Term.static "java/lang/Throwable" n d).eval args s none [] s with
  | none => simp [Cond.before, Cond.holds, Cond.value, hv] at h
  | some w =>
    obtain ⟨hst', a', cell', ha', hcell', -, hslot⟩ := Term.static_spec hi hv
    cases ha.symm.trans ha'
    cases hcell.symm.trans hcell'
    simp only [Cond.before, Cond.holds, Cond.value, hv] at h
    refine ⟨c, k, i, f, a, cell, w, hc, hi, hst, ha, hcell, hs, hcls, hlt, hty, hslot, ?_, hA a (Array.getElem?_eq_some_iff.mp hcell).1⟩
    cases w <;> simp_all [Value.isRef]
def z_START : List Int32 := [1779033703, -1150833019, 1013904242, -1521486534, 1359893119, -1694144372, 528734635, 1541459225]
set_option maxRecDepth 100000 in
set_option maxHeartbeats 4000000 in
theorem z_START_in : ∀ j, j < 8 → Cond.eq (.elem (Term.static "ThresholdBench$Sha" "START" "[I") (.int (Int32.ofNat j))) (.int (z_START.getD j 0)) ∈ flatC (.and given_1 narrow_1) := by decide +kernel
def z_ROUND : List Int32 := [1116352408, 1899447441, -1245643825, -373957723, 961987163, 1508970993, -1841331548, -1424204075, -670586216, 310598401, 607225278, 1426881987, 1925078388, -2132889090, -1680079193, -1046744716, -459576895, -272742522, 264347078, 604807628, 770255983, 1249150122, 1555081692, 1996064986, -1740746414, -1473132947, -1341970488, -1084653625, -958395405, -710438585, 113926993, 338241895, 666307205, 773529912, 1294757372, 1396182291, 1695183700, 1986661051, -2117940946, -1838011259, -1564481375, -1474664885, -1035236496, -949202525, -778901479, -694614492, -200395387, 275423344, 430227734, 506948616, 659060556, 883997877, 958139571, 1322822218, 1537002063, 1747873779, 1955562222, 2024104815, -2067236844, -1933114872, -1866530822, -1538233109, -1090935817, -965641998]
set_option maxRecDepth 100000 in
set_option maxHeartbeats 4000000 in
theorem z_ROUND_in : ∀ j, j < 64 → Cond.eq (.elem (Term.static "ThresholdBench$Sha" "ROUND" "[I") (.int (Int32.ofNat j))) (.int (z_ROUND.getD j 0)) ∈ flatC (.and given_1 narrow_1) := by decide +kernel
set_option maxRecDepth 100000 in
set_option maxHeartbeats 4000000 in
theorem zz_start {args : Array Value} {s : State} {A : Nat → Prop} (hA : ∀ a : Nat, a < s.heap.size → ¬ A a) (hts : ∀ w ∈ lw_tbl, w.before args s = true) (hg : (Jvm.Cond.and given_1 narrow_1).before args s = true) : zz A s s.heap := by
  have hs := flat_of_before _ hg
  refine ⟨kT_of (hts _ (by decide +kernel)) (hs _ (by decide +kernel)) hA, kT_of (hts _ (by decide +kernel)) (hs _ (by decide +kernel)) hA, ?_, ?_⟩
  · obtain ⟨t, ht, hT⟩ := va_Tof (tm := (Term.static "ThresholdBench$Sha" "START" "[I")) (ty := .int) (N := 8) (f := fun j => .int (z_START.getD j 0)) (A := A) (by decide) (hs _ (by decide +kernel)) (va_eqt (hs (.eq (.length (Term.static "ThresholdBench$Sha" "START" "[I")) (.int 8)) (by decide +kernel))) (fun j hj => va_eqt (hs _ (z_START_in j hj))) hA
    exact ⟨t, fun j => z_START.getD j 0, va_Zof (hts _ (by decide +kernel)) (hts (.initialized "ThresholdBench$Sha") (by decide +kernel)) ht hA, hT⟩
  · obtain ⟨t, ht, hT⟩ := va_Tof (tm := (Term.static "ThresholdBench$Sha" "ROUND" "[I")) (ty := .int) (N := 64) (f := fun j => .int (z_ROUND.getD j 0)) (A := A) (by decide) (hs _ (by decide +kernel)) (va_eqt (hs (.eq (.length (Term.static "ThresholdBench$Sha" "ROUND" "[I")) (.int 64)) (by decide +kernel))) (fun j hj => va_eqt (hs _ (z_ROUND_in j hj))) hA
    exact ⟨t, fun j => z_ROUND.getD j 0, va_Zof (hts _ (by decide +kernel)) (hts (.initialized "ThresholdBench$Sha") (by decide +kernel)) ht hA, hT⟩
set_option maxRecDepth 100000 in
set_option maxHeartbeats 4000000 in
theorem nn_start {args : Array Value} {s : State} (hts : ∀ w ∈ lw_tbl, w.before args s = true) : nn s :=
  ⟨va_Nw.of rfl (hts _ (by decide +kernel)), va_Nw.of rfl (hts _ (by decide +kernel)), va_Nw.of rfl (hts _ (by decide +kernel)), va_Nw.of rfl (hts _ (by decide +kernel)), va_Nw.of rfl (hts _ (by decide +kernel)), va_AO.of (hts _ (by decide +kernel)), va_AO.of (hts _ (by decide +kernel)), va_AO.of (hts _ (by decide +kernel)), va_AOA.of (hts _ (by decide +kernel))⟩
set_option maxRecDepth 100000 in
set_option maxHeartbeats 4000000 in
theorem whole_start {p : Program} {e : Env} {s : State} {m : MethodId} {below : List Frame} {meth : Method} {c : Code} (l : Launch) (hst : l.stackTraces = false) {b L : Nat} {xs : Nat → Int32} (hL : L ≤ 7) (C0 : lw_At p s m meth c b L xs) : W p l e room_1 s m #[Value.ref b] below meth c s.heap [] 0 0 (lw_Z below #[Value.ref b] s) (entryFrame m ([Value.ref b] : List Value).toArray 7) := by
  obtain ⟨hx, hb, hr, hml, hown, hts, hX, hbl, hlocks, hgv⟩ := C0
  have hA : ∀ a : Nat, a < s.heap.size → ¬ (fun q : Nat => s.heap.size ≤ q) a := fun a h => Nat.not_le.mpr h
  have hZ := zz_start hA hts hgv
  have hN := nn_start hts
  have htw : ∀ w ∈ AW, w.before #[Value.ref b] s = true := fun w h => hts w (aw_tbl w h)
  obtain ⟨c0, i0, hk0⟩ := u_known (C := R_TB) (T := F_TB) (N := 19) (n := 19) htw i_TB (htw _ m_480)
  obtain ⟨c1, i1, hk1⟩ := u_known (C := R_Row) (T := F_Row) (N := 2) (n := 2) htw i_Row (htw _ m_61)
  obtain ⟨c2, i2, hk2⟩ := u_known (C := R_Sig) (T := F_Sig) (N := 7) (n := 7) htw i_Sig (htw _ m_114)
  obtain ⟨c3, i3, hk3⟩ := u_known (C := R_Sca) (T := F_Sca) (N := 2) (n := 2) htw i_Sca (htw _ m_122)
  obtain ⟨c4, i4, hk4⟩ := u_known (C := R_Fie) (T := F_Fie) (N := 8) (n := 8) htw i_Fie (htw _ m_80)
  obtain ⟨c5, i5, hk5⟩ := u_known (C := R_Cur) (T := F_Cur) (N := 10) (n := 10) htw i_Cur (htw _ m_129)
  obtain ⟨c6, i6, hk6⟩ := u_known (C := R_Poi) (T := F_Poi) (N := 4) (n := 4) htw i_Poi (htw _ m_19)
  obtain ⟨c7, i7, hk7⟩ := u_known (C := R_Ter) (T := F_Ter) (N := 2) (n := 2) htw i_Ter (htw _ m_97)
  obtain ⟨c8, i8, hk8⟩ := u_known (C := R_Par) (T := F_Par) (N := 7) (n := 7) htw i_Par (htw _ m_149)
  obtain ⟨c9, i9, hk9⟩ := u_known (C := R_Dig) (T := F_Dig) (N := 5) (n := 5) htw i_Dig (htw _ m_136)
  obtain ⟨c10, i10, hk10⟩ := u_known (C := R_Sha) (T := F_Sha) (N := 3) (n := 3) htw i_Sha (htw _ m_54)
  obtain ⟨c11, i11, hk11⟩ := u_known (C := R_Mo) (T := F_Mo) (N := 34) (n := 34) htw i_Mo (htw _ m_485)
  obtain ⟨dC, dI, hKc⟩ : ∃ (dC : Nat → ClassId) (dI : Nat → Nat → Nat), ∀ (k : Nat) (q : vw_C), CL[k]? = some q → u_Kn s q.1 q.2.1 q.2.2 (dC k) (dI k) := by
    refine ⟨fun k => ([c0, c1, c2, c3, c4, c5, c6, c7, c8, c9, c10, c11] : List ClassId).getD k c0, fun k => ([i0, i1, i2, i3, i4, i5, i6, i7, i8, i9, i10, i11] : List (Nat → Nat)).getD k i0, ?_⟩
    intro k q hq
    match k, hq with
    | 0, hq => cases hq; exact hk0
    | 1, hq => cases hq; exact hk1
    | 2, hq => cases hq; exact hk2
    | 3, hq => cases hq; exact hk3
    | 4, hq => cases hq; exact hk4
    | 5, hq => cases hq; exact hk5
    | 6, hq => cases hq; exact hk6
    | 7, hq => cases hq; exact hk7
    | 8, hq => cases hq; exact hk8
    | 9, hq => cases hq; exact hk9
    | 10, hq => cases hq; exact hk10
    | 11, hq => cases hq; exact hk11
    | k + 12, hq => simp at hq
  have hK : va_K (dC, dI) CL [] s := ⟨hKc, fun k q h => by simp at h⟩
  rcases Nat.lt_or_ge L 7 with h7 | h7
  · exact law_short l hst h7 hx hb hr hml hown htw hX hbl hlocks hK hZ hN
  · obtain rfl : L = 7 := Nat.le_antisymm hL h7
    exact law_full l hst hx hb hr hml hown htw hX hbl hlocks hK hZ hN
