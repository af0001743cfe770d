-- ThresholdBench.requireDealt
set_option maxHeartbeats 4000000 in
set_option maxRecDepth 100000 in
theorem c_TB_requireDealt (l : Launch) (hst : l.stackTraces = false) (dC : Nat → ClassId) (dI : Nat → Nat → Nat) (h0 : Nat) (o0 : Value) (o1 : Value) (o2 : Value) (o3 : Value) (o4 : Value) (o6 : Value) (o7 : Value) (o8 : Value) (o9 : Value) (o10 : Value) (o11 : Value) (o12 : Value) (o13 : Value) (o14 : Value) (o15 : Value) (o16 : Value) (o17 : Value) (o18 : Value) (sz : Nat)  : xMet l y_TB_requireDealt (.code y_TB_requireDealt prog_1_method_19_code 1 (none) :: AW) ({ frames := 6, cells := 1, slots := 6, locals := 81 } : Room) (va_Pc [.ref h0] (pw (dC, dI) CL [(h0, .inr (0, [o0, o1, o2, o3, o4, .int (nI 0), o6, o7, o8, o9, o10, o11, o12, o13, o14, o15, o16, o17, o18]))] [] sz)) "java/lang/IllegalStateException" 1 6 (va_A [(h0, .inr (0, [o0, o1, o2, o3, o4, .int (nI 0), o6, o7, o8, o9, o10, o11, o12, o13, o14, o15, o16, o17, o18]))] sz) := by
  refine x_ofW (cc := prog_1_method_19_code) (maxL := 1) (ret := none) (by decide) rfl ?_
  intro p e s m args below meth c s₁ B hml htab hv
  obtain ⟨rfl, hsz, hP, hK, hD0, hZ, hN⟩ := hv
  have hx := B.exec
  have hb := B.bytes
  have hr := B.returns
  have hts := kw (atoms_spec (ws := .code y_TB_requireDealt prog_1_method_19_code 1 (none) :: AW) B.pre)
  have hown : s.vm.findClass R_TB = some m.cls := findClass_of_methodNamed B.named
  have hlocks := B.notSynchronized
  subst hsz
  have hD := hD0.self (sz := s.heap.size)
  have hst9 := x_st hP
  obtain ⟨Qg, hQg⟩ : ∃ q, q = xG below "java/lang/IllegalStateException" ([.ref h0] : List Value).toArray s 1 6 (va_A [(h0, .inr (0, [o0, o1, o2, o3, o4, .int (nI 0), o6, o7, o8, o9, o10, o11, o12, o13, o14, o15, o16, o17, o18]))] s.heap.size) := ⟨_, rfl⟩
  rw [← hQg]
  generalize hAe : va_A [(h0, .inr (0, [o0, o1, o2, o3, o4, .int (nI 0), o6, o7, o8, o9, o10, o11, o12, o13, o14, o15, o16, o17, o18]))] s.heap.size = A at hD hZ hQg hst9
  have hA : ∀ q : Nat, s.heap.size ≤ q → A q := fun q h => by rw [← hAe]; exact Or.inr h
  have hS : va_S A s.heap s.heap [] := va_S.rf
  have hP : va_P (dC, dI) CL [(h0, .inr (0, [o0, o1, o2, o3, o4, .int (nI 0), o6, o7, o8, o9, o10, o11, o12, o13, o14, o15, o16, o17, o18]))] s.heap := hP
  have hl := lv_entry ([.ref h0]) (n := 1) (Nat.le_of_ble_eq_true rfl)
  rw [lg_entry_eq]
  generalize (lg_sl ([.ref h0]) ++ List.replicate (1 - (lg_sl ([.ref h0])).length) Slot.unset).toArray = ls at hl ⊢
  have hl : lv_has ls 1 [(0, .ref h0)] := hl
  show W p l e ({ frames := 6, cells := 1, slots := 6, locals := 81 } : Room) s m ([.ref h0] : List Value).toArray below meth c s.heap [] 0 0 Qg (F0 m 0 ls [])
  refine lv_aload_n hx hb d_TB_requireDealt_0 rfl (lv_at hl 0 rfl) ?_
  refine va_get (D := (dC, dI)) (ci := 0) (v := .int (nI 0)) (C := R_TB) (T := F_TB) (N := 19) hx hb hts i_TB hown hK hP 0 rfl rfl 5 (by decide) (hts _ m_182) (fun _ h9 => h9) rfl d_TB_requireDealt_1 ?_
  refine lv_if_ne (tgt := 15) hx hb d_TB_requireDealt_4 (by decide) (fun c4 => absurd (by decide) c4) (fun c4 => ?_)
  rw [hQg]
  exact x_throw (own := R_TB) (cls := "java/lang/IllegalStateException") (names := ["java/lang/RuntimeException", "java/lang/Exception"]) (ik := 304) (ic := 306) hx hb hst hown (by decide +kernel) (by decide +kernel) (hts _ m_183) (hts _ m_184) (x_atoms_0 hts hZ hN) hS hst9 (by rw [hml]; exact hl.1) htab hlocks d_TB_requireDealt_7 d_TB_requireDealt_10 d_TB_requireDealt_11 d_TB_requireDealt_14 (Nat.le_of_ble_eq_true rfl) (Nat.le_of_ble_eq_true rfl) (Nat.le_of_ble_eq_true rfl) (Nat.le_of_ble_eq_true rfl) (Nat.le_of_ble_eq_true rfl) (Nat.le_of_ble_eq_true rfl)

-- ThresholdBench.requireSet
set_option maxHeartbeats 4000000 in
set_option maxRecDepth 100000 in
theorem c_TB_requireSet (l : Launch) (hst : l.stackTraces = false) (dC : Nat → ClassId) (dI : Nat → Nat → Nat) (h0 : Nat) (sg : Nat) (s1 : Value) (g2 : Value) (g3 : Value) (g4 : Value) (g5 : Value) (g6 : Value) (o0 : Value) (o1 : Value) (o2 : Value) (o3 : Value) (o4 : Value) (o5 : Value) (o6 : Value) (o7 : Value) (o8 : Value) (o10 : Value) (o11 : Value) (o12 : Value) (o13 : Value) (o14 : Value) (o15 : Value) (o16 : Value) (o17 : Value) (o18 : Value) (sz : Nat)  : xMet l y_TB_requireSet (.code y_TB_requireSet prog_1_method_20_code 1 (none) :: AW) ({ frames := 6, cells := 1, slots := 6, locals := 81 } : Room) (va_Pc [.ref h0] (pw (dC, dI) CL [(h0, .inr (0, [o0, o1, o2, o3, o4, o5, o6, o7, o8, .ref sg, o10, o11, o12, o13, o14, o15, o16, o17, o18])), (sg, .inr (2, [.int (nI 0), s1, g2, g3, g4, g5, g6]))] [] sz)) "java/lang/IllegalStateException" 1 6 (va_A [(h0, .inr (0, [o0, o1, o2, o3, o4, o5, o6, o7, o8, .ref sg, o10, o11, o12, o13, o14, o15, o16, o17, o18])), (sg, .inr (2, [.int (nI 0), s1, g2, g3, g4, g5, g6]))] sz) := by
  refine x_ofW (cc := prog_1_method_20_code) (maxL := 1) (ret := none) (by decide) rfl ?_
  intro p e s m args below meth c s₁ B hml htab hv
  obtain ⟨rfl, hsz, hP, hK, hD0, hZ, hN⟩ := hv
  have hx := B.exec
  have hb := B.bytes
  have hr := B.returns
  have hts := kw (atoms_spec (ws := .code y_TB_requireSet prog_1_method_20_code 1 (none) :: AW) B.pre)
  have hown : s.vm.findClass R_TB = some m.cls := findClass_of_methodNamed B.named
  have hlocks := B.notSynchronized
  subst hsz
  have hD := hD0.self (sz := s.heap.size)
  have hst9 := x_st hP
  obtain ⟨Qg, hQg⟩ : ∃ q, q = xG below "java/lang/IllegalStateException" ([.ref h0] : List Value).toArray s 1 6 (va_A [(h0, .inr (0, [o0, o1, o2, o3, o4, o5, o6, o7, o8, .ref sg, o10, o11, o12, o13, o14, o15, o16, o17, o18])), (sg, .inr (2, [.int (nI 0), s1, g2, g3, g4, g5, g6]))] s.heap.size) := ⟨_, rfl⟩
  rw [← hQg]
  generalize hAe : va_A [(h0, .inr (0, [o0, o1, o2, o3, o4, o5, o6, o7, o8, .ref sg, o10, o11, o12, o13, o14, o15, o16, o17, o18])), (sg, .inr (2, [.int (nI 0), s1, g2, g3, g4, g5, g6]))] s.heap.size = A at hD hZ hQg hst9
  have hA : ∀ q : Nat, s.heap.size ≤ q → A q := fun q h => by rw [← hAe]; exact Or.inr h
  have hS : va_S A s.heap s.heap [] := va_S.rf
  have hP : va_P (dC, dI) CL [(h0, .inr (0, [o0, o1, o2, o3, o4, o5, o6, o7, o8, .ref sg, o10, o11, o12, o13, o14, o15, o16, o17, o18])), (sg, .inr (2, [.int (nI 0), s1, g2, g3, g4, g5, g6]))] s.heap := hP
  have hl := lv_entry ([.ref h0]) (n := 1) (Nat.le_of_ble_eq_true rfl)
  rw [lg_entry_eq]
  generalize (lg_sl ([.ref h0]) ++ List.replicate (1 - (lg_sl ([.ref h0])).length) Slot.unset).toArray = ls at hl ⊢
  have hl : lv_has ls 1 [(0, .ref h0)] := hl
  show W p l e ({ frames := 6, cells := 1, slots := 6, locals := 81 } : Room) s m ([.ref h0] : List Value).toArray below meth c s.heap [] 0 0 Qg (F0 m 0 ls [])
  refine lv_aload_n hx hb d_TB_requireSet_0 rfl (lv_at hl 0 rfl) ?_
  refine va_get (D := (dC, dI)) (ci := 0) (v := .ref sg) (C := R_TB) (T := F_TB) (N := 19) hx hb hts i_TB hown hK hP 0 rfl rfl 9 (by decide) (hts _ m_119) (fun _ h9 => h9) rfl d_TB_requireSet_1 ?_
  refine va_get (D := (dC, dI)) (ci := 2) (v := .int (nI 0)) (C := R_Sig) (T := F_Sig) (N := 7) hx hb hts i_Sig hown hK hP 1 rfl rfl 0 (by decide) (hts _ m_168) (fun _ h9 => h9) rfl d_TB_requireSet_4 ?_
  refine lv_if_ne (tgt := 18) hx hb d_TB_requireSet_7 (by decide) (fun c7 => absurd (by decide) c7) (fun c7 => ?_)
  rw [hQg]
  exact x_throw (own := R_TB) (cls := "java/lang/IllegalStateException") (names := ["java/lang/RuntimeException", "java/lang/Exception"]) (ik := 304) (ic := 306) hx hb hst hown (by decide +kernel) (by decide +kernel) (hts _ m_183) (hts _ m_184) (x_atoms_0 hts hZ hN) hS hst9 (by rw [hml]; exact hl.1) htab hlocks d_TB_requireSet_10 d_TB_requireSet_13 d_TB_requireSet_14 d_TB_requireSet_17 (Nat.le_of_ble_eq_true rfl) (Nat.le_of_ble_eq_true rfl) (Nat.le_of_ble_eq_true rfl) (Nat.le_of_ble_eq_true rfl) (Nat.le_of_ble_eq_true rfl) (Nat.le_of_ble_eq_true rfl)

-- ThresholdBench.drawCoefficients
set_option maxHeartbeats 4000000 in
set_option maxRecDepth 100000 in
theorem c_TB_draw (l : Launch) (dC : Nat → ClassId) (dI : Nat → Nat → Nat) (h0 : Nat) (t1 : Nat) (b1 : Value) (p1 : Int32) (o0 : Value) (o2 : Value) (o3 : Value) (o4 : Value) (o5 : Value) (o6 : Value) (o7 : Value) (o8 : Value) (o9 : Value) (o10 : Value) (o11 : Value) (o12 : Value) (o13 : Value) (o14 : Value) (o15 : Value) (o16 : Value) (o17 : Value) (o18 : Value) (sz : Nat) (hj : ∃ j : Nat, 2 ≤ j ∧ j ≤ 8 ∧ p1 = nI j) : Met l y_TB_drawCoefficients (.code y_TB_drawCoefficients prog_1_method_27_code 3 (some .boolean) :: AW) ({ frames := 0, cells := 0, slots := 0, locals := 0 } : Room) (va_Pc [.ref h0, .int p1] (pw (dC, dI) CL [(h0, .inr (0, [o0, .ref t1, o2, o3, o4, o5, o6, o7, o8, o9, o10, o11, o12, o13, o14, o15, o16, o17, o18])), (t1, .inr (1, [b1, .int (nI 0)]))] [] sz)) (va_Qi (fun (r : Int32) (u : Unit) => r = nI 0) (fun (u : Unit) t => qw (dC, dI) CL (va_A [(h0, .inr (0, [o0, .ref t1, o2, o3, o4, o5, o6, o7, o8, o9, o10, o11, o12, o13, o14, o15, o16, o17, o18])), (t1, .inr (1, [b1, .int (nI 0)]))] sz) ((fun _ : Unit => [(h0, .inr (0, [o0, .ref t1, o2, o3, o4, o5, o6, o7, o8, o9, o10, o11, o12, o13, o14, o15, o16, o17, o18])), (t1, .inr (1, [b1, .int (nI 0)]))]) u) ((fun _ : Unit => []) u) t) (va_A [(h0, .inr (0, [o0, .ref t1, o2, o3, o4, o5, o6, o7, o8, o9, o10, o11, o12, o13, o14, o15, o16, o17, o18])), (t1, .inr (1, [b1, .int (nI 0)]))] sz)) 0 0 (va_A [(h0, .inr (0, [o0, .ref t1, o2, o3, o4, o5, o6, o7, o8, o9, o10, o11, o12, o13, o14, o15, o16, o17, o18])), (t1, .inr (1, [b1, .int (nI 0)]))] sz) := by
  refine Met.ofW (cc := prog_1_method_27_code) (maxL := 3) (ret := (some .boolean)) (by decide) rfl ?_
  intro p e s m args below meth c s₁ B hml hv
  obtain ⟨rfl, hsz, hP, hK, hD0, hZ, hN⟩ := hv
  have hx := B.exec
  have hb := B.bytes
  have hr := B.returns
  have hts := kw (atoms_spec (ws := .code y_TB_drawCoefficients prog_1_method_27_code 3 (some .boolean) :: AW) B.pre)
  have hown : s.vm.findClass R_TB = some m.cls := findClass_of_methodNamed B.named
  have hlocks := B.notSynchronized
  subst hsz
  have hD := hD0.self (sz := s.heap.size)
  obtain ⟨Qg, hQg⟩ : ∃ q, q = MQ below (va_Qi (fun (r : Int32) (u : Unit) => r = nI 0) (fun (u : Unit) t => qw (dC, dI) CL (va_A [(h0, .inr (0, [o0, .ref t1, o2, o3, o4, o5, o6, o7, o8, o9, o10, o11, o12, o13, o14, o15, o16, o17, o18])), (t1, .inr (1, [b1, .int (nI 0)]))] s.heap.size) ((fun _ : Unit => [(h0, .inr (0, [o0, .ref t1, o2, o3, o4, o5, o6, o7, o8, o9, o10, o11, o12, o13, o14, o15, o16, o17, o18])), (t1, .inr (1, [b1, .int (nI 0)]))]) u) ((fun _ : Unit => []) u) t) (va_A [(h0, .inr (0, [o0, .ref t1, o2, o3, o4, o5, o6, o7, o8, o9, o10, o11, o12, o13, o14, o15, o16, o17, o18])), (t1, .inr (1, [b1, .int (nI 0)]))] s.heap.size)) ([.ref h0, .int p1] : List Value).toArray s 0 0 (va_A [(h0, .inr (0, [o0, .ref t1, o2, o3, o4, o5, o6, o7, o8, o9, o10, o11, o12, o13, o14, o15, o16, o17, o18])), (t1, .inr (1, [b1, .int (nI 0)]))] s.heap.size) := ⟨_, rfl⟩
  rw [← hQg]
  generalize hAe : va_A [(h0, .inr (0, [o0, .ref t1, o2, o3, o4, o5, o6, o7, o8, o9, o10, o11, o12, o13, o14, o15, o16, o17, o18])), (t1, .inr (1, [b1, .int (nI 0)]))] s.heap.size = A at hD hZ hQg
  have hA : ∀ q : Nat, s.heap.size ≤ q → A q := fun q h => by rw [← hAe]; exact Or.inr h
  have hS : va_S A s.heap s.heap [] := va_S.rf
  have hP : va_P (dC, dI) CL [(h0, .inr (0, [o0, .ref t1, o2, o3, o4, o5, o6, o7, o8, o9, o10, o11, o12, o13, o14, o15, o16, o17, o18])), (t1, .inr (1, [b1, .int (nI 0)]))] s.heap := hP
  have hl := lv_entry ([.ref h0, .int p1]) (n := 3) (Nat.le_of_ble_eq_true rfl)
  rw [lg_entry_eq]
  generalize (lg_sl ([.ref h0, .int p1]) ++ List.replicate (3 - (lg_sl ([.ref h0, .int p1])).length) Slot.unset).toArray = ls at hl ⊢
  have hl : lv_has ls 3 [(0, .ref h0), (1, .int p1)] := hl
  show W p l e ({ frames := 0, cells := 0, slots := 0, locals := 0 } : Room) s m ([.ref h0, .int p1] : List Value).toArray below meth c s.heap [] 0 0 Qg (F0 m 0 ls [])
  refine lv_aload_n hx hb d_TB_drawCoefficients_0 rfl (lv_at hl 0 rfl) ?_
  refine va_get (D := (dC, dI)) (ci := 0) (v := .ref t1) (C := R_TB) (T := F_TB) (N := 19) hx hb hts i_TB hown hK hP 0 rfl rfl 1 (by decide) (hts _ m_106) (fun _ h9 => h9) rfl d_TB_drawCoefficients_1 ?_
  refine va_get (D := (dC, dI)) (ci := 1) (v := .int (nI 0)) (C := R_Row) (T := F_Row) (N := 2) hx hb hts i_Row hown hK hP 1 rfl rfl 1 (by decide) (hts _ m_158) (fun _ h9 => h9) rfl d_TB_drawCoefficients_4 ?_
  refine lv_iload_n hx hb d_TB_drawCoefficients_7 rfl (lv_at hl 1 rfl) ?_
  refine lv_bipush (v := (nI 32)) hx hb d_TB_drawCoefficients_8 (by decide +kernel) ?_
  refine lv_imul hx hb d_TB_drawCoefficients_10 ?_
  refine lv_icmp_eq (tgt := 16) hx hb d_TB_drawCoefficients_11 (by decide) (fun c11 => absurd c11 (k_draw0 hj)) (fun c11 => ?_)
  refine lv_iconst (v := (nI 0)) hx hb d_TB_drawCoefficients_14 (by decide +kernel) ?_
  have hP9 := hP.sub (ws' := [(h0, .inr (0, [o0, .ref t1, o2, o3, o4, o5, o6, o7, o8, o9, o10, o11, o12, o13, o14, o15, o16, o17, o18])), (t1, .inr (1, [b1, .int (nI 0)]))]) [0, 1] rfl
  have hD9 := hD.sub (ws' := [(h0, .inr (0, [o0, .ref t1, o2, o3, o4, o5, o6, o7, o8, o9, o10, o11, o12, o13, o14, o15, o16, o17, o18])), (t1, .inr (1, [b1, .int (nI 0)]))]) [0, 1] (by decide) rfl
  have hK9 := hK.sub (tys' := []) [] rfl
  rw [hQg]
  exact W.zret (v := (nI 0)) hx hb hr rfl (fun t ht hW => ⟨⟨(nI 0), (), rfl, rfl, by rw [ht]; exact hP9, va_K.moved hW.alike hK9, hD9⟩, hS.F ht⟩) hS.2.2 d_TB_drawCoefficients_15

-- ThresholdBench.deal
set_option maxHeartbeats 4000000 in
set_option maxRecDepth 100000 in
theorem c_TB_deal (l : Launch) (hst : l.stackTraces = false) (dC : Nat → ClassId) (dI : Nat → Nat → Nat) (h0 : Nat) (t0 : Nat) (t1 : Nat) (b0 : Nat) (b1 : Nat) (p1 : Int32) (p2 : Int32) (o2 : Value) (o3 : Value) (o4 : Value) (o5 : Value) (o6 : Value) (o7 : Value) (o8 : Value) (o9 : Value) (o10 : Value) (o11 : Value) (o12 : Value) (o13 : Value) (o14 : Value) (o15 : Value) (o16 : Value) (o17 : Value) (o18 : Value) (sz : Nat)  : xMet l y_TB_deal (.code y_TB_deal prog_1_method_4_code 5 (none) :: AW) ({ frames := 6, cells := 1, slots := 6, locals := 81 } : Room) (va_Pc [.ref h0, .int p1, .int p2] (pw (dC, dI) CL [(h0, .inr (0, [.ref t0, .ref t1, o2, o3, o4, o5, o6, o7, o8, o9, o10, o11, o12, o13, o14, o15, o16, o17, o18])), (t0, .inr (1, [.ref b0, .int (nI 0)])), (t1, .inr (1, [.ref b1, .int (nI 0)]))] [] sz)) "java/lang/IllegalArgumentException" 1 6 (va_A [(h0, .inr (0, [.ref t0, .ref t1, o2, o3, o4, o5, o6, o7, o8, o9, o10, o11, o12, o13, o14, o15, o16, o17, o18])), (t0, .inr (1, [.ref b0, .int (nI 0)])), (t1, .inr (1, [.ref b1, .int (nI 0)]))] sz) := by
  refine x_ofW (cc := prog_1_method_4_code) (maxL := 5) (ret := none) (by decide) rfl ?_
  intro p e s m args below meth c s₁ B hml htab hv
  obtain ⟨rfl, hsz, hP, hK, hD0, hZ, hN⟩ := hv
  have hx := B.exec
  have hb := B.bytes
  have hr := B.returns
  have hts := kw (atoms_spec (ws := .code y_TB_deal prog_1_method_4_code 5 (none) :: AW) B.pre)
  have hown : s.vm.findClass R_TB = some m.cls := findClass_of_methodNamed B.named
  have hlocks := B.notSynchronized
  subst hsz
  have hD := hD0.self (sz := s.heap.size)
  have hst9 := x_st hP
  obtain ⟨Qg, hQg⟩ : ∃ q, q = xG below "java/lang/IllegalArgumentException" ([.ref h0, .int p1, .int p2] : List Value).toArray s 1 6 (va_A [(h0, .inr (0, [.ref t0, .ref t1, o2, o3, o4, o5, o6, o7, o8, o9, o10, o11, o12, o13, o14, o15, o16, o17, o18])), (t0, .inr (1, [.ref b0, .int (nI 0)])), (t1, .inr (1, [.ref b1, .int (nI 0)]))] s.heap.size) := ⟨_, rfl⟩
  rw [← hQg]
  generalize hAe : va_A [(h0, .inr (0, [.ref t0, .ref t1, o2, o3, o4, o5, o6, o7, o8, o9, o10, o11, o12, o13, o14, o15, o16, o17, o18])), (t0, .inr (1, [.ref b0, .int (nI 0)])), (t1, .inr (1, [.ref b1, .int (nI 0)]))] s.heap.size = A at hD hZ hQg hst9
  have hA : ∀ q : Nat, s.heap.size ≤ q → A q := fun q h => by rw [← hAe]; exact Or.inr h
  have hS : va_S A s.heap s.heap [] := va_S.rf
  have hP : va_P (dC, dI) CL [(h0, .inr (0, [.ref t0, .ref t1, o2, o3, o4, o5, o6, o7, o8, o9, o10, o11, o12, o13, o14, o15, o16, o17, o18])), (t0, .inr (1, [.ref b0, .int (nI 0)])), (t1, .inr (1, [.ref b1, .int (nI 0)]))] s.heap := hP
  have hl := lv_entry ([.ref h0, .int p1, .int p2]) (n := 5) (Nat.le_of_ble_eq_true rfl)
  rw [lg_entry_eq]
  generalize (lg_sl ([.ref h0, .int p1, .int p2]) ++ List.replicate (5 - (lg_sl ([.ref h0, .int p1, .int p2])).length) Slot.unset).toArray = ls at hl ⊢
  have hl : lv_has ls 5 [(0, .ref h0), (1, .int p1), (2, .int p2)] := hl
  show W p l e ({ frames := 6, cells := 1, slots := 6, locals := 81 } : Room) s m ([.ref h0, .int p1, .int p2] : List Value).toArray below meth c s.heap [] 0 0 Qg (F0 m 0 ls [])
  refine lv_aload_n hx hb d_TB_deal_0 rfl (lv_at hl 0 rfl) ?_
  refine k_finv (wr := []) [0, 1, 2] [] (k_runV (n := 0) (As := []) (rest := []) (wc := [(h0, .inr (0, [.ref t0, .ref t1, o2, o3, o4, o5, o6, o7, o8, o9, o10, o11, o12, o13, o14, o15, o16, o17, o18])), (t0, .inr (1, [.ref b0, .int (nI 0)])), (t1, .inr (1, [.ref b1, .int (nI 0)]))]) ⟨hx, hb, hml, hown, hts⟩ (c_TB_takeTape l dC dI h0 t0 t1 (.ref b0) (.int (nI 0)) b1 (nI 0) o2 o3 o4 o5 o6 o7 o8 o9 o10 o11 o12 o13 o14 o15 o16 o17 o18 _ ) (kg_V m_171 m_172 m_173 m_163 (kg_code m_170)) (by decide +kernel) rfl rfl ⟨Nat.le_of_ble_eq_true rfl, Nat.le_of_ble_eq_true rfl⟩ [0, 1, 2] [] hP hD hK hS hA hZ hN (by rfl) (by decide) (by rfl) rfl rfl rfl rfl hl.1 rfl (Nat.le_of_ble_eq_true rfl) d_TB_deal_1 ⟨(Nat.le_of_ble_eq_true rfl), (Nat.le_of_ble_eq_true rfl)⟩) hP hD hK hS hA (by rfl) (by rfl) (by decide) (by decide) (fun u9 H locs hw_2 hP hD hK hS => ?_)
  try dsimp only at hw_2
  have hP : va_P (dC, dI) CL [(h0, .inr (0, [.ref t1, .ref t0, o2, o3, o4, o5, o6, o7, o8, o9, o10, o11, o12, o13, o14, o15, o16, o17, o18])), (t0, .inr (1, [.ref b0, .int (nI 0)])), (t1, .inr (1, [.ref b1, .int (nI 0)]))] H := hP
  have hD : va_D A [(h0, .inr (0, [.ref t1, .ref t0, o2, o3, o4, o5, o6, o7, o8, o9, o10, o11, o12, o13, o14, o15, o16, o17, o18])), (t0, .inr (1, [.ref b0, .int (nI 0)])), (t1, .inr (1, [.ref b1, .int (nI 0)]))] := hD
  have hK : va_K (dC, dI) CL [] s := hK
  refine lv_iload_n hx hb d_TB_deal_4 rfl (lv_at hl 1 rfl) ?_
  refine lv_iconst (v := (nI 2)) hx hb d_TB_deal_5 (by decide +kernel) ?_
  refine lv_icmp_lt (tgt := 37) hx hb d_TB_deal_6 (by decide) (fun c6 => ?_) (fun c6 => ?_)
  · rw [hQg]
    exact x_throw (own := R_TB) (cls := "java/lang/IllegalArgumentException") (names := ["java/lang/RuntimeException", "java/lang/Exception"]) (ik := 99) (ic := 101) hx hb hst hown (by decide +kernel) (by decide +kernel) (hts _ m_185) (hts _ m_186) (x_atoms_1 hts hZ hN) hS hst9 (by rw [hml]; exact hl.1) htab hlocks d_TB_deal_37 d_TB_deal_40 d_TB_deal_41 d_TB_deal_44 (Nat.le_of_ble_eq_true rfl) (Nat.le_of_ble_eq_true rfl) (Nat.le_of_ble_eq_true rfl) (Nat.le_of_ble_eq_true rfl) (Nat.le_of_ble_eq_true rfl) (Nat.le_of_ble_eq_true rfl)
  · refine lv_iload_n hx hb d_TB_deal_9 rfl (lv_at hl 2 rfl) ?_
    refine lv_iload_n hx hb d_TB_deal_10 rfl (lv_at hl 1 rfl) ?_
    refine lv_icmp_lt (tgt := 37) hx hb d_TB_deal_11 (by decide) (fun c11 => ?_) (fun c11 => ?_)
    · rw [hQg]
      exact x_throw (own := R_TB) (cls := "java/lang/IllegalArgumentException") (names := ["java/lang/RuntimeException", "java/lang/Exception"]) (ik := 99) (ic := 101) hx hb hst hown (by decide +kernel) (by decide +kernel) (hts _ m_185) (hts _ m_186) (x_atoms_1 hts hZ hN) hS hst9 (by rw [hml]; exact hl.1) htab hlocks d_TB_deal_37 d_TB_deal_40 d_TB_deal_41 d_TB_deal_44 (Nat.le_of_ble_eq_true rfl) (Nat.le_of_ble_eq_true rfl) (Nat.le_of_ble_eq_true rfl) (Nat.le_of_ble_eq_true rfl) (Nat.le_of_ble_eq_true rfl) (Nat.le_of_ble_eq_true rfl)
    · refine lv_iload_n hx hb d_TB_deal_14 rfl (lv_at hl 2 rfl) ?_
      refine lv_bipush (v := (nI 8)) hx hb d_TB_deal_15 (by decide +kernel) ?_
      refine lv_icmp_gt (tgt := 37) hx hb d_TB_deal_17 (by decide) (fun c17 => ?_) (fun c17 => ?_)
      · rw [hQg]
        exact x_throw (own := R_TB) (cls := "java/lang/IllegalArgumentException") (names := ["java/lang/RuntimeException", "java/lang/Exception"]) (ik := 99) (ic := 101) hx hb hst hown (by decide +kernel) (by decide +kernel) (hts _ m_185) (hts _ m_186) (x_atoms_1 hts hZ hN) hS hst9 (by rw [hml]; exact hl.1) htab hlocks d_TB_deal_37 d_TB_deal_40 d_TB_deal_41 d_TB_deal_44 (Nat.le_of_ble_eq_true rfl) (Nat.le_of_ble_eq_true rfl) (Nat.le_of_ble_eq_true rfl) (Nat.le_of_ble_eq_true rfl) (Nat.le_of_ble_eq_true rfl) (Nat.le_of_ble_eq_true rfl)
      · refine lv_aload_n hx hb d_TB_deal_20 rfl (lv_at hl 0 rfl) ?_
        refine lv_iload_n hx hb d_TB_deal_21 rfl (lv_at hl 1 rfl) ?_
        refine k_fini (wr := [(t1, .inr (1, [.ref b1, .int (nI 0)]))]) [0, 1] [2] (k_runV (n := 1) (As := [.int p1]) (rest := []) (wc := [(h0, .inr (0, [.ref t1, .ref t0, o2, o3, o4, o5, o6, o7, o8, o9, o10, o11, o12, o13, o14, o15, o16, o17, o18])), (t0, .inr (1, [.ref b0, .int (nI 0)]))]) ⟨hx, hb, hml, hown, hts⟩ (c_TB_draw l dC dI h0 t0 (.ref b0) p1 (.ref t1) o2 o3 o4 o5 o6 o7 o8 o9 o10 o11 o12 o13 o14 o15 o16 o17 o18 _ (k_draw c6 c11 c17)) (kg_V m_188 m_189 m_190 m_163 (kg_code m_187)) (by decide +kernel) rfl rfl ⟨Nat.le_of_ble_eq_true rfl, Nat.le_of_ble_eq_true rfl⟩ [0, 1] [] hP hD hK hS hA hZ hN (by rfl) (by decide) (by rfl) rfl rfl rfl rfl hl.1 rfl (Nat.le_of_ble_eq_true rfl) d_TB_deal_22 ⟨(Nat.le_of_ble_eq_true rfl), (Nat.le_of_ble_eq_true rfl)⟩) hP hD hK hS hA (by rfl) (by rfl) (by decide) (by decide) (fun r_3 u9 H locs hw_4 hP hD hK hS => ?_)
        try dsimp only at hw_4
        have hP : va_P (dC, dI) CL [(t1, .inr (1, [.ref b1, .int (nI 0)])), (h0, .inr (0, [.ref t1, .ref t0, o2, o3, o4, o5, o6, o7, o8, o9, o10, o11, o12, o13, o14, o15, o16, o17, o18])), (t0, .inr (1, [.ref b0, .int (nI 0)]))] H := hP
        have hD : va_D A [(t1, .inr (1, [.ref b1, .int (nI 0)])), (h0, .inr (0, [.ref t1, .ref t0, o2, o3, o4, o5, o6, o7, o8, o9, o10, o11, o12, o13, o14, o15, o16, o17, o18])), (t0, .inr (1, [.ref b0, .int (nI 0)]))] := hD
        have hK : va_K (dC, dI) CL [] s := hK
        subst hw_4
        refine lv_if_eq (tgt := 37) hx hb d_TB_deal_25 (by decide) (fun c25 => ?_) (fun c25 => absurd (by decide) c25)
        rw [hQg]
        exact x_throw (own := R_TB) (cls := "java/lang/IllegalArgumentException") (names := ["java/lang/RuntimeException", "java/lang/Exception"]) (ik := 99) (ic := 101) hx hb hst hown (by decide +kernel) (by decide +kernel) (hts _ m_185) (hts _ m_186) (x_atoms_1 hts hZ hN) hS hst9 (by rw [hml]; exact hl.1) htab hlocks d_TB_deal_37 d_TB_deal_40 d_TB_deal_41 d_TB_deal_44 (Nat.le_of_ble_eq_true rfl) (Nat.le_of_ble_eq_true rfl) (Nat.le_of_ble_eq_true rfl) (Nat.le_of_ble_eq_true rfl) (Nat.le_of_ble_eq_true rfl) (Nat.le_of_ble_eq_true rfl)

-- ThresholdBench.change
set_option maxHeartbeats 4000000 in
set_option maxRecDepth 100000 in
theorem c_TB_change (l : Launch) (hst : l.stackTraces = false) (dC : Nat → ClassId) (dI : Nat → Nat → Nat) (h0 : Nat) (t0 : Nat) (t1 : Nat) (b0 : Nat) (b1 : Nat) (p1 : Int32) (o2 : Value) (o3 : Value) (o4 : Value) (o6 : Value) (o7 : Value) (o8 : Value) (o9 : Value) (o10 : Value) (o11 : Value) (o12 : Value) (o13 : Value) (o14 : Value) (o15 : Value) (o16 : Value) (o17 : Value) (o18 : Value) (sz : Nat)  : xMet l y_TB_change (.code y_TB_change prog_1_method_5_code 3 (some .boolean) :: AW) ({ frames := 7, cells := 1, slots := 6, locals := 101 } : Room) (va_Pc [.ref h0, .int p1] (pw (dC, dI) CL [(h0, .inr (0, [.ref t0, .ref t1, o2, o3, o4, .int (nI 0), o6, o7, o8, o9, o10, o11, o12, o13, o14, o15, o16, o17, o18])), (t0, .inr (1, [.ref b0, .int (nI 0)])), (t1, .inr (1, [.ref b1, .int (nI 0)]))] [] sz)) "java/lang/IllegalStateException" 1 6 (va_A [(h0, .inr (0, [.ref t0, .ref t1, o2, o3, o4, .int (nI 0), o6, o7, o8, o9, o10, o11, o12, o13, o14, o15, o16, o17, o18])), (t0, .inr (1, [.ref b0, .int (nI 0)])), (t1, .inr (1, [.ref b1, .int (nI 0)]))] sz) := by
  refine x_ofW (cc := prog_1_method_5_code) (maxL := 3) (ret := (some .boolean)) (by decide) rfl ?_
  intro p e s m args below meth c s₁ B hml htab hv
  obtain ⟨rfl, hsz, hP, hK, hD0, hZ, hN⟩ := hv
  have hx := B.exec
  have hb := B.bytes
  have hr := B.returns
  have hts := kw (atoms_spec (ws := .code y_TB_change prog_1_method_5_code 3 (some .boolean) :: AW) B.pre)
  have hown : s.vm.findClass R_TB = some m.cls := findClass_of_methodNamed B.named
  have hlocks := B.notSynchronized
  subst hsz
  have hD := hD0.self (sz := s.heap.size)
  have hst9 := x_st hP
  obtain ⟨Qg, hQg⟩ : ∃ q, q = xG below "java/lang/IllegalStateException" ([.ref h0, .int p1] : List Value).toArray s 1 6 (va_A [(h0, .inr (0, [.ref t0, .ref t1, o2, o3, o4, .int (nI 0), o6, o7, o8, o9, o10, o11, o12, o13, o14, o15, o16, o17, o18])), (t0, .inr (1, [.ref b0, .int (nI 0)])), (t1, .inr (1, [.ref b1, .int (nI 0)]))] s.heap.size) := ⟨_, rfl⟩
  rw [← hQg]
  generalize hAe : va_A [(h0, .inr (0, [.ref t0, .ref t1, o2, o3, o4, .int (nI 0), o6, o7, o8, o9, o10, o11, o12, o13, o14, o15, o16, o17, o18])), (t0, .inr (1, [.ref b0, .int (nI 0)])), (t1, .inr (1, [.ref b1, .int (nI 0)]))] s.heap.size = A at hD hZ hQg hst9
  have hA : ∀ q : Nat, s.heap.size ≤ q → A q := fun q h => by rw [← hAe]; exact Or.inr h
  have hS : va_S A s.heap s.heap [] := va_S.rf
  have hP : va_P (dC, dI) CL [(h0, .inr (0, [.ref t0, .ref t1, o2, o3, o4, .int (nI 0), o6, o7, o8, o9, o10, o11, o12, o13, o14, o15, o16, o17, o18])), (t0, .inr (1, [.ref b0, .int (nI 0)])), (t1, .inr (1, [.ref b1, .int (nI 0)]))] s.heap := hP
  have hl := lv_entry ([.ref h0, .int p1]) (n := 3) (Nat.le_of_ble_eq_true rfl)
  rw [lg_entry_eq]
  generalize (lg_sl ([.ref h0, .int p1]) ++ List.replicate (3 - (lg_sl ([.ref h0, .int p1])).length) Slot.unset).toArray = ls at hl ⊢
  have hl : lv_has ls 3 [(0, .ref h0), (1, .int p1)] := hl
  show W p l e ({ frames := 7, cells := 1, slots := 6, locals := 101 } : Room) s m ([.ref h0, .int p1] : List Value).toArray below meth c s.heap [] 0 0 Qg (F0 m 0 ls [])
  refine lv_aload_n hx hb d_TB_change_0 rfl (lv_at hl 0 rfl) ?_
  refine k_finv (wr := []) [0, 1, 2] [] (k_runV (n := 0) (As := []) (rest := []) (wc := [(h0, .inr (0, [.ref t0, .ref t1, o2, o3, o4, .int (nI 0), o6, o7, o8, o9, o10, o11, o12, o13, o14, o15, o16, o17, o18])), (t0, .inr (1, [.ref b0, .int (nI 0)])), (t1, .inr (1, [.ref b1, .int (nI 0)]))]) ⟨hx, hb, hml, hown, hts⟩ (c_TB_takeTape l dC dI h0 t0 t1 (.ref b0) (.int (nI 0)) b1 (nI 0) o2 o3 o4 (.int (nI 0)) o6 o7 o8 o9 o10 o11 o12 o13 o14 o15 o16 o17 o18 _ ) (kg_V m_171 m_172 m_173 m_163 (kg_code m_170)) (by decide +kernel) rfl rfl ⟨Nat.le_of_ble_eq_true rfl, Nat.le_of_ble_eq_true rfl⟩ [0, 1, 2] [] hP hD hK hS hA hZ hN (by rfl) (by decide) (by rfl) rfl rfl rfl rfl hl.1 rfl (Nat.le_of_ble_eq_true rfl) d_TB_change_1 ⟨(Nat.le_of_ble_eq_true rfl), (Nat.le_of_ble_eq_true rfl)⟩) hP hD hK hS hA (by rfl) (by rfl) (by decide) (by decide) (fun u9 H locs hw_2 hP hD hK hS => ?_)
  try dsimp only at hw_2
  have hP : va_P (dC, dI) CL [(h0, .inr (0, [.ref t1, .ref t0, o2, o3, o4, .int (nI 0), o6, o7, o8, o9, o10, o11, o12, o13, o14, o15, o16, o17, o18])), (t0, .inr (1, [.ref b0, .int (nI 0)])), (t1, .inr (1, [.ref b1, .int (nI 0)]))] H := hP
  have hD : va_D A [(h0, .inr (0, [.ref t1, .ref t0, o2, o3, o4, .int (nI 0), o6, o7, o8, o9, o10, o11, o12, o13, o14, o15, o16, o17, o18])), (t0, .inr (1, [.ref b0, .int (nI 0)])), (t1, .inr (1, [.ref b1, .int (nI 0)]))] := hD
  have hK : va_K (dC, dI) CL [] s := hK
  refine lv_aload_n hx hb d_TB_change_4 rfl (lv_at hl 0 rfl) ?_
  refine x_call (E := "java/lang/IllegalStateException") (n := 0) (As := []) (rest := []) (wc := [(h0, .inr (0, [.ref t1, .ref t0, o2, o3, o4, .int (nI 0), o6, o7, o8, o9, o10, o11, o12, o13, o14, o15, o16, o17, o18]))]) ⟨hx, hb, hml, hown, hts⟩ (c_TB_requireDealt l hst dC dI h0 (.ref t1) (.ref t0) o2 o3 o4 o6 o7 o8 o9 o10 o11 o12 o13 o14 o15 o16 o17 o18 _ ) (kg_V m_192 m_193 m_194 m_163 (kg_code m_191)) (by decide +kernel) rfl rfl ⟨Nat.le_of_ble_eq_true rfl, Nat.le_of_ble_eq_true rfl⟩ [0] [] hP hD hK hS hA hZ hN (by rfl) (by decide) (by rfl) rfl rfl rfl rfl hl.1 rfl (Nat.le_of_ble_eq_true rfl) d_TB_change_5 ⟨(Nat.le_of_ble_eq_true rfl), (Nat.le_of_ble_eq_true rfl)⟩ (fun ce q9 H locs hS hce hcv hcl => ?_)
  have hP : va_P (dC, dI) CL [] H := fun k q h => by simp at h
  have hD : va_D A [] := ⟨fun i j p q h => by simp at h, fun k q h => by simp at h⟩
  rw [hQg]
  exact x_out htab hlocks hce hcv hcl hS.2.2 (Nat.le_of_ble_eq_true rfl) (Nat.le_of_ble_eq_true rfl)

-- ThresholdBench.commit
set_option maxHeartbeats 4000000 in
set_option maxRecDepth 100000 in
theorem c_TB_commit (l : Launch) (hst : l.stackTraces = false) (dC : Nat → ClassId) (dI : Nat → Nat → Nat) (h0 : Nat) (t0 : Nat) (t1 : Nat) (b0 : Nat) (b1 : Nat) (p1 : Int32) (o2 : Value) (o3 : Value) (o4 : Value) (o6 : Value) (o7 : Value) (o8 : Value) (o9 : Value) (o10 : Value) (o11 : Value) (o12 : Value) (o13 : Value) (o14 : Value) (o15 : Value) (o16 : Value) (o17 : Value) (o18 : Value) (sz : Nat)  : xMet l y_TB_commit (.code y_TB_commit prog_1_method_6_code 3 (none) :: AW) ({ frames := 7, cells := 1, slots := 6, locals := 101 } : Room) (va_Pc [.ref h0, .int p1] (pw (dC, dI) CL [(h0, .inr (0, [.ref t0, .ref t1, o2, o3, o4, .int (nI 0), o6, o7, o8, o9, o10, o11, o12, o13, o14, o15, o16, o17, o18])), (t0, .inr (1, [.ref b0, .int (nI 0)])), (t1, .inr (1, [.ref b1, .int (nI 0)]))] [] sz)) "java/lang/IllegalStateException" 1 6 (va_A [(h0, .inr (0, [.ref t0, .ref t1, o2, o3, o4, .int (nI 0), o6, o7, o8, o9, o10, o11, o12, o13, o14, o15, o16, o17, o18])), (t0, .inr (1, [.ref b0, .int (nI 0)])), (t1, .inr (1, [.ref b1, .int (nI 0)]))] sz) := by
  refine x_ofW (cc := prog_1_method_6_code) (maxL := 3) (ret := none) (by decide) rfl ?_
  intro p e s m args below meth c s₁ B hml htab hv
  obtain ⟨rfl, hsz, hP, hK, hD0, hZ, hN⟩ := hv
  have hx := B.exec
  have hb := B.bytes
  have hr := B.returns
  have hts := kw (atoms_spec (ws := .code y_TB_commit prog_1_method_6_code 3 (none) :: AW) B.pre)
  have hown : s.vm.findClass R_TB = some m.cls := findClass_of_methodNamed B.named
  have hlocks := B.notSynchronized
  subst hsz
  have hD := hD0.self (sz := s.heap.size)
  have hst9 := x_st hP
  obtain ⟨Qg, hQg⟩ : ∃ q, q = xG below "java/lang/IllegalStateException" ([.ref h0, .int p1] : List Value).toArray s 1 6 (va_A [(h0, .inr (0, [.ref t0, .ref t1, o2, o3, o4, .int (nI 0), o6, o7, o8, o9, o10, o11, o12, o13, o14, o15, o16, o17, o18])), (t0, .inr (1, [.ref b0, .int (nI 0)])), (t1, .inr (1, [.ref b1, .int (nI 0)]))] s.heap.size) := ⟨_, rfl⟩
  rw [← hQg]
  generalize hAe : va_A [(h0, .inr (0, [.ref t0, .ref t1, o2, o3, o4, .int (nI 0), o6, o7, o8, o9, o10, o11, o12, o13, o14, o15, o16, o17, o18])), (t0, .inr (1, [.ref b0, .int (nI 0)])), (t1, .inr (1, [.ref b1, .int (nI 0)]))] s.heap.size = A at hD hZ hQg hst9
  have hA : ∀ q : Nat, s.heap.size ≤ q → A q := fun q h => by rw [← hAe]; exact Or.inr h
  have hS : va_S A s.heap s.heap [] := va_S.rf
  have hP : va_P (dC, dI) CL [(h0, .inr (0, [.ref t0, .ref t1, o2, o3, o4, .int (nI 0), o6, o7, o8, o9, o10, o11, o12, o13, o14, o15, o16, o17, o18])), (t0, .inr (1, [.ref b0, .int (nI 0)])), (t1, .inr (1, [.ref b1, .int (nI 0)]))] s.heap := hP
  have hl := lv_entry ([.ref h0, .int p1]) (n := 3) (Nat.le_of_ble_eq_true rfl)
  rw [lg_entry_eq]
  generalize (lg_sl ([.ref h0, .int p1]) ++ List.replicate (3 - (lg_sl ([.ref h0, .int p1])).length) Slot.unset).toArray = ls at hl ⊢
  have hl : lv_has ls 3 [(0, .ref h0), (1, .int p1)] := hl
  show W p l e ({ frames := 7, cells := 1, slots := 6, locals := 101 } : Room) s m ([.ref h0, .int p1] : List Value).toArray below meth c s.heap [] 0 0 Qg (F0 m 0 ls [])
  refine lv_aload_n hx hb d_TB_commit_0 rfl (lv_at hl 0 rfl) ?_
  refine k_finv (wr := []) [0, 1, 2] [] (k_runV (n := 0) (As := []) (rest := []) (wc := [(h0, .inr (0, [.ref t0, .ref t1, o2, o3, o4, .int (nI 0), o6, o7, o8, o9, o10, o11, o12, o13, o14, o15, o16, o17, o18])), (t0, .inr (1, [.ref b0, .int (nI 0)])), (t1, .inr (1, [.ref b1, .int (nI 0)]))]) ⟨hx, hb, hml, hown, hts⟩ (c_TB_takeTape l dC dI h0 t0 t1 (.ref b0) (.int (nI 0)) b1 (nI 0) o2 o3 o4 (.int (nI 0)) o6 o7 o8 o9 o10 o11 o12 o13 o14 o15 o16 o17 o18 _ ) (kg_V m_171 m_172 m_173 m_163 (kg_code m_170)) (by decide +kernel) rfl rfl ⟨Nat.le_of_ble_eq_true rfl, Nat.le_of_ble_eq_true rfl⟩ [0, 1, 2] [] hP hD hK hS hA hZ hN (by rfl) (by decide) (by rfl) rfl rfl rfl rfl hl.1 rfl (Nat.le_of_ble_eq_true rfl) d_TB_commit_1 ⟨(Nat.le_of_ble_eq_true rfl), (Nat.le_of_ble_eq_true rfl)⟩) hP hD hK hS hA (by rfl) (by rfl) (by decide) (by decide) (fun u9 H locs hw_2 hP hD hK hS => ?_)
  try dsimp only at hw_2
  have hP : va_P (dC, dI) CL [(h0, .inr (0, [.ref t1, .ref t0, o2, o3, o4, .int (nI 0), o6, o7, o8, o9, o10, o11, o12, o13, o14, o15, o16, o17, o18])), (t0, .inr (1, [.ref b0, .int (nI 0)])), (t1, .inr (1, [.ref b1, .int (nI 0)]))] H := hP
  have hD : va_D A [(h0, .inr (0, [.ref t1, .ref t0, o2, o3, o4, .int (nI 0), o6, o7, o8, o9, o10, o11, o12, o13, o14, o15, o16, o17, o18])), (t0, .inr (1, [.ref b0, .int (nI 0)])), (t1, .inr (1, [.ref b1, .int (nI 0)]))] := hD
  have hK : va_K (dC, dI) CL [] s := hK
  refine lv_aload_n hx hb d_TB_commit_4 rfl (lv_at hl 0 rfl) ?_
  refine x_call (E := "java/lang/IllegalStateException") (n := 0) (As := []) (rest := []) (wc := [(h0, .inr (0, [.ref t1, .ref t0, o2, o3, o4, .int (nI 0), o6, o7, o8, o9, o10, o11, o12, o13, o14, o15, o16, o17, o18]))]) ⟨hx, hb, hml, hown, hts⟩ (c_TB_requireDealt l hst dC dI h0 (.ref t1) (.ref t0) o2 o3 o4 o6 o7 o8 o9 o10 o11 o12 o13 o14 o15 o16 o17 o18 _ ) (kg_V m_192 m_193 m_194 m_163 (kg_code m_191)) (by decide +kernel) rfl rfl ⟨Nat.le_of_ble_eq_true rfl, Nat.le_of_ble_eq_true rfl⟩ [0] [] hP hD hK hS hA hZ hN (by rfl) (by decide) (by rfl) rfl rfl rfl rfl hl.1 rfl (Nat.le_of_ble_eq_true rfl) d_TB_commit_5 ⟨(Nat.le_of_ble_eq_true rfl), (Nat.le_of_ble_eq_true rfl)⟩ (fun ce q9 H locs hS hce hcv hcl => ?_)
  have hP : va_P (dC, dI) CL [] H := fun k q h => by simp at h
  have hD : va_D A [] := ⟨fun i j p q h => by simp at h, fun k q h => by simp at h⟩
  rw [hQg]
  exact x_out htab hlocks hce hcv hcl hS.2.2 (Nat.le_of_ble_eq_true rfl) (Nat.le_of_ble_eq_true rfl)

-- ThresholdBench.holds
set_option maxHeartbeats 4000000 in
set_option maxRecDepth 100000 in
theorem c_TB_holds (l : Launch) (hst : l.stackTraces = false) (dC : Nat → ClassId) (dI : Nat → Nat → Nat) (h0 : Nat) (t0 : Nat) (t1 : Nat) (b0 : Nat) (b1 : Nat) (o2 : Value) (o3 : Value) (o4 : Value) (o6 : Value) (o7 : Value) (o8 : Value) (o9 : Value) (o10 : Value) (o11 : Value) (o12 : Value) (o13 : Value) (o14 : Value) (o15 : Value) (o16 : Value) (o17 : Value) (o18 : Value) (sz : Nat)  : xMet l y_TB_holds (.code y_TB_holds prog_1_method_12_code 1 (some .boolean) :: AW) ({ frames := 7, cells := 1, slots := 6, locals := 101 } : Room) (va_Pc [.ref h0] (pw (dC, dI) CL [(h0, .inr (0, [.ref t0, .ref t1, o2, o3, o4, .int (nI 0), o6, o7, o8, o9, o10, o11, o12, o13, o14, o15, o16, o17, o18])), (t0, .inr (1, [.ref b0, .int (nI 0)])), (t1, .inr (1, [.ref b1, .int (nI 0)]))] [] sz)) "java/lang/IllegalStateException" 1 6 (va_A [(h0, .inr (0, [.ref t0, .ref t1, o2, o3, o4, .int (nI 0), o6, o7, o8, o9, o10, o11, o12, o13, o14, o15, o16, o17, o18])), (t0, .inr (1, [.ref b0, .int (nI 0)])), (t1, .inr (1, [.ref b1, .int (nI 0)]))] sz) := by
  refine x_ofW (cc := prog_1_method_12_code) (maxL := 1) (ret := (some .boolean)) (by decide) rfl ?_
  intro p e s m args below meth c s₁ B hml htab hv
  obtain ⟨rfl, hsz, hP, hK, hD0, hZ, hN⟩ := hv
  have hx := B.exec
  have hb := B.bytes
  have hr := B.returns
  have hts := kw (atoms_spec (ws := .code y_TB_holds prog_1_method_12_code 1 (some .boolean) :: AW) B.pre)
  have hown : s.vm.findClass R_TB = some m.cls := findClass_of_methodNamed B.named
  have hlocks := B.notSynchronized
  subst hsz
  have hD := hD0.self (sz := s.heap.size)
  have hst9 := x_st hP
  obtain ⟨Qg, hQg⟩ : ∃ q, q = xG below "java/lang/IllegalStateException" ([.ref h0] : List Value).toArray s 1 6 (va_A [(h0, .inr (0, [.ref t0, .ref t1, o2, o3, o4, .int (nI 0), o6, o7, o8, o9, o10, o11, o12, o13, o14, o15, o16, o17, o18])), (t0, .inr (1, [.ref b0, .int (nI 0)])), (t1, .inr (1, [.ref b1, .int (nI 0)]))] s.heap.size) := ⟨_, rfl⟩
  rw [← hQg]
  generalize hAe : va_A [(h0, .inr (0, [.ref t0, .ref t1, o2, o3, o4, .int (nI 0), o6, o7, o8, o9, o10, o11, o12, o13, o14, o15, o16, o17, o18])), (t0, .inr (1, [.ref b0, .int (nI 0)])), (t1, .inr (1, [.ref b1, .int (nI 0)]))] s.heap.size = A at hD hZ hQg hst9
  have hA : ∀ q : Nat, s.heap.size ≤ q → A q := fun q h => by rw [← hAe]; exact Or.inr h
  have hS : va_S A s.heap s.heap [] := va_S.rf
  have hP : va_P (dC, dI) CL [(h0, .inr (0, [.ref t0, .ref t1, o2, o3, o4, .int (nI 0), o6, o7, o8, o9, o10, o11, o12, o13, o14, o15, o16, o17, o18])), (t0, .inr (1, [.ref b0, .int (nI 0)])), (t1, .inr (1, [.ref b1, .int (nI 0)]))] s.heap := hP
  have hl := lv_entry ([.ref h0]) (n := 1) (Nat.le_of_ble_eq_true rfl)
  rw [lg_entry_eq]
  generalize (lg_sl ([.ref h0]) ++ List.replicate (1 - (lg_sl ([.ref h0])).length) Slot.unset).toArray = ls at hl ⊢
  have hl : lv_has ls 1 [(0, .ref h0)] := hl
  show W p l e ({ frames := 7, cells := 1, slots := 6, locals := 101 } : Room) s m ([.ref h0] : List Value).toArray below meth c s.heap [] 0 0 Qg (F0 m 0 ls [])
  refine lv_aload_n hx hb d_TB_holds_0 rfl (lv_at hl 0 rfl) ?_
  refine k_finv (wr := []) [0, 1, 2] [] (k_runV (n := 0) (As := []) (rest := []) (wc := [(h0, .inr (0, [.ref t0, .ref t1, o2, o3, o4, .int (nI 0), o6, o7, o8, o9, o10, o11, o12, o13, o14, o15, o16, o17, o18])), (t0, .inr (1, [.ref b0, .int (nI 0)])), (t1, .inr (1, [.ref b1, .int (nI 0)]))]) ⟨hx, hb, hml, hown, hts⟩ (c_TB_takeTape l dC dI h0 t0 t1 (.ref b0) (.int (nI 0)) b1 (nI 0) o2 o3 o4 (.int (nI 0)) o6 o7 o8 o9 o10 o11 o12 o13 o14 o15 o16 o17 o18 _ ) (kg_V m_171 m_172 m_173 m_163 (kg_code m_170)) (by decide +kernel) rfl rfl ⟨Nat.le_of_ble_eq_true rfl, Nat.le_of_ble_eq_true rfl⟩ [0, 1, 2] [] hP hD hK hS hA hZ hN (by rfl) (by decide) (by rfl) rfl rfl rfl rfl hl.1 rfl (Nat.le_of_ble_eq_true rfl) d_TB_holds_1 ⟨(Nat.le_of_ble_eq_true rfl), (Nat.le_of_ble_eq_true rfl)⟩) hP hD hK hS hA (by rfl) (by rfl) (by decide) (by decide) (fun u9 H locs hw_2 hP hD hK hS => ?_)
  try dsimp only at hw_2
  have hP : va_P (dC, dI) CL [(h0, .inr (0, [.ref t1, .ref t0, o2, o3, o4, .int (nI 0), o6, o7, o8, o9, o10, o11, o12, o13, o14, o15, o16, o17, o18])), (t0, .inr (1, [.ref b0, .int (nI 0)])), (t1, .inr (1, [.ref b1, .int (nI 0)]))] H := hP
  have hD : va_D A [(h0, .inr (0, [.ref t1, .ref t0, o2, o3, o4, .int (nI 0), o6, o7, o8, o9, o10, o11, o12, o13, o14, o15, o16, o17, o18])), (t0, .inr (1, [.ref b0, .int (nI 0)])), (t1, .inr (1, [.ref b1, .int (nI 0)]))] := hD
  have hK : va_K (dC, dI) CL [] s := hK
  refine lv_aload_n hx hb d_TB_holds_4 rfl (lv_at hl 0 rfl) ?_
  refine x_call (E := "java/lang/IllegalStateException") (n := 0) (As := []) (rest := []) (wc := [(h0, .inr (0, [.ref t1, .ref t0, o2, o3, o4, .int (nI 0), o6, o7, o8, o9, o10, o11, o12, o13, o14, o15, o16, o17, o18]))]) ⟨hx, hb, hml, hown, hts⟩ (c_TB_requireDealt l hst dC dI h0 (.ref t1) (.ref t0) o2 o3 o4 o6 o7 o8 o9 o10 o11 o12 o13 o14 o15 o16 o17 o18 _ ) (kg_V m_192 m_193 m_194 m_163 (kg_code m_191)) (by decide +kernel) rfl rfl ⟨Nat.le_of_ble_eq_true rfl, Nat.le_of_ble_eq_true rfl⟩ [0] [] hP hD hK hS hA hZ hN (by rfl) (by decide) (by rfl) rfl rfl rfl rfl hl.1 rfl (Nat.le_of_ble_eq_true rfl) d_TB_holds_5 ⟨(Nat.le_of_ble_eq_true rfl), (Nat.le_of_ble_eq_true rfl)⟩ (fun ce q9 H locs hS hce hcv hcl => ?_)
  have hP : va_P (dC, dI) CL [] H := fun k q h => by simp at h
  have hD : va_D A [] := ⟨fun i j p q h => by simp at h, fun k q h => by simp at h⟩
  rw [hQg]
  exact x_out htab hlocks hce hcv hcl hS.2.2 (Nat.le_of_ble_eq_true rfl) (Nat.le_of_ble_eq_true rfl)

-- ThresholdBench.choose
set_option maxHeartbeats 4000000 in
set_option maxRecDepth 100000 in
theorem c_TB_choose (l : Launch) (hst : l.stackTraces = false) (dC : Nat → ClassId) (dI : Nat → Nat → Nat) (h0 : Nat) (p1 : Int32) (o0 : Value) (o1 : Value) (o2 : Value) (o3 : Value) (o4 : Value) (o6 : Value) (o7 : Value) (o8 : Value) (o9 : Value) (o10 : Value) (o11 : Value) (o12 : Value) (o13 : Value) (o14 : Value) (o15 : Value) (o16 : Value) (o17 : Value) (o18 : Value) (sz : Nat)  : xMet l y_TB_choose (.code y_TB_choose prog_1_method_7_code 3 (none) :: AW) ({ frames := 7, cells := 1, slots := 6, locals := 101 } : Room) (va_Pc [.ref h0, .int p1] (pw (dC, dI) CL [(h0, .inr (0, [o0, o1, o2, o3, o4, .int (nI 0), o6, o7, o8, o9, o10, o11, o12, o13, o14, o15, o16, o17, o18]))] [] sz)) "java/lang/IllegalStateException" 1 6 (va_A [(h0, .inr (0, [o0, o1, o2, o3, o4, .int (nI 0), o6, o7, o8, o9, o10, o11, o12, o13, o14, o15, o16, o17, o18]))] sz) := by
  refine x_ofW (cc := prog_1_method_7_code) (maxL := 3) (ret := none) (by decide) rfl ?_
  intro p e s m args below meth c s₁ B hml htab hv
  obtain ⟨rfl, hsz, hP, hK, hD0, hZ, hN⟩ := hv
  have hx := B.exec
  have hb := B.bytes
  have hr := B.returns
  have hts := kw (atoms_spec (ws := .code y_TB_choose prog_1_method_7_code 3 (none) :: AW) B.pre)
  have hown : s.vm.findClass R_TB = some m.cls := findClass_of_methodNamed B.named
  have hlocks := B.notSynchronized
  subst hsz
  have hD := hD0.self (sz := s.heap.size)
  have hst9 := x_st hP
  obtain ⟨Qg, hQg⟩ : ∃ q, q = xG below "java/lang/IllegalStateException" ([.ref h0, .int p1] : List Value).toArray s 1 6 (va_A [(h0, .inr (0, [o0, o1, o2, o3, o4, .int (nI 0), o6, o7, o8, o9, o10, o11, o12, o13, o14, o15, o16, o17, o18]))] s.heap.size) := ⟨_, rfl⟩
  rw [← hQg]
  generalize hAe : va_A [(h0, .inr (0, [o0, o1, o2, o3, o4, .int (nI 0), o6, o7, o8, o9, o10, o11, o12, o13, o14, o15, o16, o17, o18]))] s.heap.size = A at hD hZ hQg hst9
  have hA : ∀ q : Nat, s.heap.size ≤ q → A q := fun q h => by rw [← hAe]; exact Or.inr h
  have hS : va_S A s.heap s.heap [] := va_S.rf
  have hP : va_P (dC, dI) CL [(h0, .inr (0, [o0, o1, o2, o3, o4, .int (nI 0), o6, o7, o8, o9, o10, o11, o12, o13, o14, o15, o16, o17, o18]))] s.heap := hP
  have hl := lv_entry ([.ref h0, .int p1]) (n := 3) (Nat.le_of_ble_eq_true rfl)
  rw [lg_entry_eq]
  generalize (lg_sl ([.ref h0, .int p1]) ++ List.replicate (3 - (lg_sl ([.ref h0, .int p1])).length) Slot.unset).toArray = ls at hl ⊢
  have hl : lv_has ls 3 [(0, .ref h0), (1, .int p1)] := hl
  show W p l e ({ frames := 7, cells := 1, slots := 6, locals := 101 } : Room) s m ([.ref h0, .int p1] : List Value).toArray below meth c s.heap [] 0 0 Qg (F0 m 0 ls [])
  refine lv_aload_n hx hb d_TB_choose_0 rfl (lv_at hl 0 rfl) ?_
  refine x_call (E := "java/lang/IllegalStateException") (n := 0) (As := []) (rest := []) (wc := [(h0, .inr (0, [o0, o1, o2, o3, o4, .int (nI 0), o6, o7, o8, o9, o10, o11, o12, o13, o14, o15, o16, o17, o18]))]) ⟨hx, hb, hml, hown, hts⟩ (c_TB_requireDealt l hst dC dI h0 o0 o1 o2 o3 o4 o6 o7 o8 o9 o10 o11 o12 o13 o14 o15 o16 o17 o18 _ ) (kg_V m_192 m_193 m_194 m_163 (kg_code m_191)) (by decide +kernel) rfl rfl ⟨Nat.le_of_ble_eq_true rfl, Nat.le_of_ble_eq_true rfl⟩ [0] [] hP hD hK hS hA hZ hN (by rfl) (by decide) (by rfl) rfl rfl rfl rfl hl.1 rfl (Nat.le_of_ble_eq_true rfl) d_TB_choose_1 ⟨(Nat.le_of_ble_eq_true rfl), (Nat.le_of_ble_eq_true rfl)⟩ (fun ce q9 H locs hS hce hcv hcl => ?_)
  have hP : va_P (dC, dI) CL [] H := fun k q h => by simp at h
  have hD : va_D A [] := ⟨fun i j p q h => by simp at h, fun k q h => by simp at h⟩
  rw [hQg]
  exact x_out htab hlocks hce hcv hcl hS.2.2 (Nat.le_of_ble_eq_true rfl) (Nat.le_of_ble_eq_true rfl)

-- ThresholdBench.share
set_option maxHeartbeats 4000000 in
set_option maxRecDepth 100000 in
theorem c_TB_share (l : Launch) (hst : l.stackTraces = false) (dC : Nat → ClassId) (dI : Nat → Nat → Nat) (h0 : Nat) (sg : Nat) (s1 : Value) (g2 : Value) (g3 : Value) (g4 : Value) (g5 : Value) (g6 : Value) (p1 : Int32) (o0 : Value) (o1 : Value) (o2 : Value) (o3 : Value) (o4 : Value) (o5 : Value) (o6 : Value) (o7 : Value) (o8 : Value) (o10 : Value) (o11 : Value) (o12 : Value) (o13 : Value) (o14 : Value) (o15 : Value) (o16 : Value) (o17 : Value) (o18 : Value) (sz : Nat)  : xMet l y_TB_share (.code y_TB_share prog_1_method_8_code 4 (none) :: AW) ({ frames := 7, cells := 1, slots := 6, locals := 101 } : Room) (va_Pc [.ref h0, .int p1] (pw (dC, dI) CL [(h0, .inr (0, [o0, o1, o2, o3, o4, o5, o6, o7, o8, .ref sg, o10, o11, o12, o13, o14, o15, o16, o17, o18])), (sg, .inr (2, [.int (nI 0), s1, g2, g3, g4, g5, g6]))] [] sz)) "java/lang/IllegalStateException" 1 6 (va_A [(h0, .inr (0, [o0, o1, o2, o3, o4, o5, o6, o7, o8, .ref sg, o10, o11, o12, o13, o14, o15, o16, o17, o18])), (sg, .inr (2, [.int (nI 0), s1, g2, g3, g4, g5, g6]))] sz) := by
  refine x_ofW (cc := prog_1_method_8_code) (maxL := 4) (ret := none) (by decide) rfl ?_
  intro p e s m args below meth c s₁ B hml htab hv
  obtain ⟨rfl, hsz, hP, hK, hD0, hZ, hN⟩ := hv
  have hx := B.exec
  have hb := B.bytes
  have hr := B.returns
  have hts := kw (atoms_spec (ws := .code y_TB_share prog_1_method_8_code 4 (none) :: AW) B.pre)
  have hown : s.vm.findClass R_TB = some m.cls := findClass_of_methodNamed B.named
  have hlocks := B.notSynchronized
  subst hsz
  have hD := hD0.self (sz := s.heap.size)
  have hst9 := x_st hP
  obtain ⟨Qg, hQg⟩ : ∃ q, q = xG below "java/lang/IllegalStateException" ([.ref h0, .int p1] : List Value).toArray s 1 6 (va_A [(h0, .inr (0, [o0, o1, o2, o3, o4, o5, o6, o7, o8, .ref sg, o10, o11, o12, o13, o14, o15, o16, o17, o18])), (sg, .inr (2, [.int (nI 0), s1, g2, g3, g4, g5, g6]))] s.heap.size) := ⟨_, rfl⟩
  rw [← hQg]
  generalize hAe : va_A [(h0, .inr (0, [o0, o1, o2, o3, o4, o5, o6, o7, o8, .ref sg, o10, o11, o12, o13, o14, o15, o16, o17, o18])), (sg, .inr (2, [.int (nI 0), s1, g2, g3, g4, g5, g6]))] s.heap.size = A at hD hZ hQg hst9
  have hA : ∀ q : Nat, s.heap.size ≤ q → A q := fun q h => by rw [← hAe]; exact Or.inr h
  have hS : va_S A s.heap s.heap [] := va_S.rf
  have hP : va_P (dC, dI) CL [(h0, .inr (0, [o0, o1, o2, o3, o4, o5, o6, o7, o8, .ref sg, o10, o11, o12, o13, o14, o15, o16, o17, o18])), (sg, .inr (2, [.int (nI 0), s1, g2, g3, g4, g5, g6]))] s.heap := hP
  have hl := lv_entry ([.ref h0, .int p1]) (n := 4) (Nat.le_of_ble_eq_true rfl)
  rw [lg_entry_eq]
  generalize (lg_sl ([.ref h0, .int p1]) ++ List.replicate (4 - (lg_sl ([.ref h0, .int p1])).length) Slot.unset).toArray = ls at hl ⊢
  have hl : lv_has ls 4 [(0, .ref h0), (1, .int p1)] := hl
  show W p l e ({ frames := 7, cells := 1, slots := 6, locals := 101 } : Room) s m ([.ref h0, .int p1] : List Value).toArray below meth c s.heap [] 0 0 Qg (F0 m 0 ls [])
  refine lv_aload_n hx hb d_TB_share_0 rfl (lv_at hl 0 rfl) ?_
  refine x_call (E := "java/lang/IllegalStateException") (n := 0) (As := []) (rest := []) (wc := [(h0, .inr (0, [o0, o1, o2, o3, o4, o5, o6, o7, o8, .ref sg, o10, o11, o12, o13, o14, o15, o16, o17, o18])), (sg, .inr (2, [.int (nI 0), s1, g2, g3, g4, g5, g6]))]) ⟨hx, hb, hml, hown, hts⟩ (c_TB_requireSet l hst dC dI h0 sg s1 g2 g3 g4 g5 g6 o0 o1 o2 o3 o4 o5 o6 o7 o8 o10 o11 o12 o13 o14 o15 o16 o17 o18 _ ) (kg_V m_196 m_197 m_198 m_163 (kg_code m_195)) (by decide +kernel) rfl rfl ⟨Nat.le_of_ble_eq_true rfl, Nat.le_of_ble_eq_true rfl⟩ [0, 1] [] hP hD hK hS hA hZ hN (by rfl) (by decide) (by rfl) rfl rfl rfl rfl hl.1 rfl (Nat.le_of_ble_eq_true rfl) d_TB_share_1 ⟨(Nat.le_of_ble_eq_true rfl), (Nat.le_of_ble_eq_true rfl)⟩ (fun ce q9 H locs hS hce hcv hcl => ?_)
  have hP : va_P (dC, dI) CL [] H := fun k q h => by simp at h
  have hD : va_D A [] := ⟨fun i j p q h => by simp at h, fun k q h => by simp at h⟩
  rw [hQg]
  exact x_out htab hlocks hce hcv hcl hS.2.2 (Nat.le_of_ble_eq_true rfl) (Nat.le_of_ble_eq_true rfl)

-- ThresholdBench.right
set_option maxHeartbeats 4000000 in
set_option maxRecDepth 100000 in
theorem c_TB_right (l : Launch) (hst : l.stackTraces = false) (dC : Nat → ClassId) (dI : Nat → Nat → Nat) (h0 : Nat) (sg : Nat) (s1 : Value) (g2 : Value) (g3 : Value) (g4 : Value) (g5 : Value) (g6 : Value) (p1 : Int32) (o0 : Value) (o1 : Value) (o2 : Value) (o3 : Value) (o4 : Value) (o5 : Value) (o6 : Value) (o7 : Value) (o8 : Value) (o10 : Value) (o11 : Value) (o12 : Value) (o13 : Value) (o14 : Value) (o15 : Value) (o16 : Value) (o17 : Value) (o18 : Value) (sz : Nat)  : xMet l y_TB_right (.code y_TB_right prog_1_method_10_code 2 (some .boolean) :: AW) ({ frames := 7, cells := 1, slots := 6, locals := 101 } : Room) (va_Pc [.ref h0, .int p1] (pw (dC, dI) CL [(h0, .inr (0, [o0, o1, o2, o3, o4, o5, o6, o7, o8, .ref sg, o10, o11, o12, o13, o14, o15, o16, o17, o18])), (sg, .inr (2, [.int (nI 0), s1, g2, g3, g4, g5, g6]))] [] sz)) "java/lang/IllegalStateException" 1 6 (va_A [(h0, .inr (0, [o0, o1, o2, o3, o4, o5, o6, o7, o8, .ref sg, o10, o11, o12, o13, o14, o15, o16, o17, o18])), (sg, .inr (2, [.int (nI 0), s1, g2, g3, g4, g5, g6]))] sz) := by
  refine x_ofW (cc := prog_1_method_10_code) (maxL := 2) (ret := (some .boolean)) (by decide) rfl ?_
  intro p e s m args below meth c s₁ B hml htab hv
  obtain ⟨rfl, hsz, hP, hK, hD0, hZ, hN⟩ := hv
  have hx := B.exec
  have hb := B.bytes
  have hr := B.returns
  have hts := kw (atoms_spec (ws := .code y_TB_right prog_1_method_10_code 2 (some .boolean) :: AW) B.pre)
  have hown : s.vm.findClass R_TB = some m.cls := findClass_of_methodNamed B.named
  have hlocks := B.notSynchronized
  subst hsz
  have hD := hD0.self (sz := s.heap.size)
  have hst9 := x_st hP
  obtain ⟨Qg, hQg⟩ : ∃ q, q = xG below "java/lang/IllegalStateException" ([.ref h0, .int p1] : List Value).toArray s 1 6 (va_A [(h0, .inr (0, [o0, o1, o2, o3, o4, o5, o6, o7, o8, .ref sg, o10, o11, o12, o13, o14, o15, o16, o17, o18])), (sg, .inr (2, [.int (nI 0), s1, g2, g3, g4, g5, g6]))] s.heap.size) := ⟨_, rfl⟩
  rw [← hQg]
  generalize hAe : va_A [(h0, .inr (0, [o0, o1, o2, o3, o4, o5, o6, o7, o8, .ref sg, o10, o11, o12, o13, o14, o15, o16, o17, o18])), (sg, .inr (2, [.int (nI 0), s1, g2, g3, g4, g5, g6]))] s.heap.size = A at hD hZ hQg hst9
  have hA : ∀ q : Nat, s.heap.size ≤ q → A q := fun q h => by rw [← hAe]; exact Or.inr h
  have hS : va_S A s.heap s.heap [] := va_S.rf
  have hP : va_P (dC, dI) CL [(h0, .inr (0, [o0, o1, o2, o3, o4, o5, o6, o7, o8, .ref sg, o10, o11, o12, o13, o14, o15, o16, o17, o18])), (sg, .inr (2, [.int (nI 0), s1, g2, g3, g4, g5, g6]))] s.heap := hP
  have hl := lv_entry ([.ref h0, .int p1]) (n := 2) (Nat.le_of_ble_eq_true rfl)
  rw [lg_entry_eq]
  generalize (lg_sl ([.ref h0, .int p1]) ++ List.replicate (2 - (lg_sl ([.ref h0, .int p1])).length) Slot.unset).toArray = ls at hl ⊢
  have hl : lv_has ls 2 [(0, .ref h0), (1, .int p1)] := hl
  show W p l e ({ frames := 7, cells := 1, slots := 6, locals := 101 } : Room) s m ([.ref h0, .int p1] : List Value).toArray below meth c s.heap [] 0 0 Qg (F0 m 0 ls [])
  refine lv_aload_n hx hb d_TB_right_0 rfl (lv_at hl 0 rfl) ?_
  refine x_call (E := "java/lang/IllegalStateException") (n := 0) (As := []) (rest := []) (wc := [(h0, .inr (0, [o0, o1, o2, o3, o4, o5, o6, o7, o8, .ref sg, o10, o11, o12, o13, o14, o15, o16, o17, o18])), (sg, .inr (2, [.int (nI 0), s1, g2, g3, g4, g5, g6]))]) ⟨hx, hb, hml, hown, hts⟩ (c_TB_requireSet l hst dC dI h0 sg s1 g2 g3 g4 g5 g6 o0 o1 o2 o3 o4 o5 o6 o7 o8 o10 o11 o12 o13 o14 o15 o16 o17 o18 _ ) (kg_V m_196 m_197 m_198 m_163 (kg_code m_195)) (by decide +kernel) rfl rfl ⟨Nat.le_of_ble_eq_true rfl, Nat.le_of_ble_eq_true rfl⟩ [0, 1] [] hP hD hK hS hA hZ hN (by rfl) (by decide) (by rfl) rfl rfl rfl rfl hl.1 rfl (Nat.le_of_ble_eq_true rfl) d_TB_right_1 ⟨(Nat.le_of_ble_eq_true rfl), (Nat.le_of_ble_eq_true rfl)⟩ (fun ce q9 H locs hS hce hcv hcl => ?_)
  have hP : va_P (dC, dI) CL [] H := fun k q h => by simp at h
  have hD : va_D A [] := ⟨fun i j p q h => by simp at h, fun k q h => by simp at h⟩
  rw [hQg]
  exact x_out htab hlocks hce hcv hcl hS.2.2 (Nat.le_of_ble_eq_true rfl) (Nat.le_of_ble_eq_true rfl)

-- ThresholdBench.gather
set_option maxHeartbeats 4000000 in
set_option maxRecDepth 100000 in
theorem c_TB_gather (l : Launch) (hst : l.stackTraces = false) (dC : Nat → ClassId) (dI : Nat → Nat → Nat) (h0 : Nat) (sg : Nat) (s1 : Value) (g2 : Value) (g3 : Value) (g4 : Value) (g5 : Value) (g6 : Value) (o0 : Value) (o1 : Value) (o2 : Value) (o3 : Value) (o4 : Value) (o5 : Value) (o6 : Value) (o7 : Value) (o8 : Value) (o10 : Value) (o11 : Value) (o12 : Value) (o13 : Value) (o14 : Value) (o15 : Value) (o16 : Value) (o17 : Value) (o18 : Value) (sz : Nat)  : xMet l y_TB_gather (.code y_TB_gather prog_1_method_11_code 3 (some .int) :: AW) ({ frames := 7, cells := 1, slots := 6, locals := 101 } : Room) (va_Pc [.ref h0] (pw (dC, dI) CL [(h0, .inr (0, [o0, o1, o2, o3, o4, o5, o6, o7, o8, .ref sg, o10, o11, o12, o13, o14, o15, o16, o17, o18])), (sg, .inr (2, [.int (nI 0), s1, g2, g3, g4, g5, g6]))] [] sz)) "java/lang/IllegalStateException" 1 6 (va_A [(h0, .inr (0, [o0, o1, o2, o3, o4, o5, o6, o7, o8, .ref sg, o10, o11, o12, o13, o14, o15, o16, o17, o18])), (sg, .inr (2, [.int (nI 0), s1, g2, g3, g4, g5, g6]))] sz) := by
  refine x_ofW (cc := prog_1_method_11_code) (maxL := 3) (ret := (some .int)) (by decide) rfl ?_
  intro p e s m args below meth c s₁ B hml htab hv
  obtain ⟨rfl, hsz, hP, hK, hD0, hZ, hN⟩ := hv
  have hx := B.exec
  have hb := B.bytes
  have hr := B.returns
  have hts := kw (atoms_spec (ws := .code y_TB_gather prog_1_method_11_code 3 (some .int) :: AW) B.pre)
  have hown : s.vm.findClass R_TB = some m.cls := findClass_of_methodNamed B.named
  have hlocks := B.notSynchronized
  subst hsz
  have hD := hD0.self (sz := s.heap.size)
  have hst9 := x_st hP
  obtain ⟨Qg, hQg⟩ : ∃ q, q = xG below "java/lang/IllegalStateException" ([.ref h0] : List Value).toArray s 1 6 (va_A [(h0, .inr (0, [o0, o1, o2, o3, o4, o5, o6, o7, o8, .ref sg, o10, o11, o12, o13, o14, o15, o16, o17, o18])), (sg, .inr (2, [.int (nI 0), s1, g2, g3, g4, g5, g6]))] s.heap.size) := ⟨_, rfl⟩
  rw [← hQg]
  generalize hAe : va_A [(h0, .inr (0, [o0, o1, o2, o3, o4, o5, o6, o7, o8, .ref sg, o10, o11, o12, o13, o14, o15, o16, o17, o18])), (sg, .inr (2, [.int (nI 0), s1, g2, g3, g4, g5, g6]))] s.heap.size = A at hD hZ hQg hst9
  have hA : ∀ q : Nat, s.heap.size ≤ q → A q := fun q h => by rw [← hAe]; exact Or.inr h
  have hS : va_S A s.heap s.heap [] := va_S.rf
  have hP : va_P (dC, dI) CL [(h0, .inr (0, [o0, o1, o2, o3, o4, o5, o6, o7, o8, .ref sg, o10, o11, o12, o13, o14, o15, o16, o17, o18])), (sg, .inr (2, [.int (nI 0), s1, g2, g3, g4, g5, g6]))] s.heap := hP
  have hl := lv_entry ([.ref h0]) (n := 3) (Nat.le_of_ble_eq_true rfl)
  rw [lg_entry_eq]
  generalize (lg_sl ([.ref h0]) ++ List.replicate (3 - (lg_sl ([.ref h0])).length) Slot.unset).toArray = ls at hl ⊢
  have hl : lv_has ls 3 [(0, .ref h0)] := hl
  show W p l e ({ frames := 7, cells := 1, slots := 6, locals := 101 } : Room) s m ([.ref h0] : List Value).toArray below meth c s.heap [] 0 0 Qg (F0 m 0 ls [])
  refine lv_aload_n hx hb d_TB_gather_0 rfl (lv_at hl 0 rfl) ?_
  refine x_call (E := "java/lang/IllegalStateException") (n := 0) (As := []) (rest := []) (wc := [(h0, .inr (0, [o0, o1, o2, o3, o4, o5, o6, o7, o8, .ref sg, o10, o11, o12, o13, o14, o15, o16, o17, o18])), (sg, .inr (2, [.int (nI 0), s1, g2, g3, g4, g5, g6]))]) ⟨hx, hb, hml, hown, hts⟩ (c_TB_requireSet l hst dC dI h0 sg s1 g2 g3 g4 g5 g6 o0 o1 o2 o3 o4 o5 o6 o7 o8 o10 o11 o12 o13 o14 o15 o16 o17 o18 _ ) (kg_V m_196 m_197 m_198 m_163 (kg_code m_195)) (by decide +kernel) rfl rfl ⟨Nat.le_of_ble_eq_true rfl, Nat.le_of_ble_eq_true rfl⟩ [0, 1] [] hP hD hK hS hA hZ hN (by rfl) (by decide) (by rfl) rfl rfl rfl rfl hl.1 rfl (Nat.le_of_ble_eq_true rfl) d_TB_gather_1 ⟨(Nat.le_of_ble_eq_true rfl), (Nat.le_of_ble_eq_true rfl)⟩ (fun ce q9 H locs hS hce hcv hcl => ?_)
  have hP : va_P (dC, dI) CL [] H := fun k q h => by simp at h
  have hD : va_D A [] := ⟨fun i j p q h => by simp at h, fun k q h => by simp at h⟩
  rw [hQg]
  exact x_out htab hlocks hce hcv hcl hS.2.2 (Nat.le_of_ble_eq_true rfl) (Nat.le_of_ble_eq_true rfl)

-- ThresholdBench.other
set_option maxHeartbeats 4000000 in
set_option maxRecDepth 100000 in
theorem c_TB_other (l : Launch) (hst : l.stackTraces = false) (dC : Nat → ClassId) (dI : Nat → Nat → Nat) (h0 : Nat) (t0 : Nat) (t1 : Nat) (b0 : Nat) (b1 : Nat) (sg : Nat) (s1 : Value) (g2 : Value) (g3 : Value) (g4 : Value) (g5 : Value) (g6 : Value) (p1 : Int32) (o2 : Value) (o3 : Value) (o4 : Value) (o5 : Value) (o6 : Value) (o7 : Value) (o8 : Value) (o10 : Value) (o11 : Value) (o12 : Value) (o13 : Value) (o14 : Value) (o15 : Value) (o16 : Value) (o17 : Value) (o18 : Value) (sz : Nat)  : xMet l y_TB_other (.code y_TB_other prog_1_method_9_code 2 (none) :: AW) ({ frames := 7, cells := 1, slots := 6, locals := 101 } : Room) (va_Pc [.ref h0, .int p1] (pw (dC, dI) CL [(h0, .inr (0, [.ref t0, .ref t1, o2, o3, o4, o5, o6, o7, o8, .ref sg, o10, o11, o12, o13, o14, o15, o16, o17, o18])), (t0, .inr (1, [.ref b0, .int (nI 0)])), (t1, .inr (1, [.ref b1, .int (nI 0)])), (sg, .inr (2, [.int (nI 0), s1, g2, g3, g4, g5, g6]))] [] sz)) "java/lang/IllegalStateException" 1 6 (va_A [(h0, .inr (0, [.ref t0, .ref t1, o2, o3, o4, o5, o6, o7, o8, .ref sg, o10, o11, o12, o13, o14, o15, o16, o17, o18])), (t0, .inr (1, [.ref b0, .int (nI 0)])), (t1, .inr (1, [.ref b1, .int (nI 0)])), (sg, .inr (2, [.int (nI 0), s1, g2, g3, g4, g5, g6]))] sz) := by
  refine x_ofW (cc := prog_1_method_9_code) (maxL := 2) (ret := none) (by decide) rfl ?_
  intro p e s m args below meth c s₁ B hml htab hv
  obtain ⟨rfl, hsz, hP, hK, hD0, hZ, hN⟩ := hv
  have hx := B.exec
  have hb := B.bytes
  have hr := B.returns
  have hts := kw (atoms_spec (ws := .code y_TB_other prog_1_method_9_code 2 (none) :: AW) B.pre)
  have hown : s.vm.findClass R_TB = some m.cls := findClass_of_methodNamed B.named
  have hlocks := B.notSynchronized
  subst hsz
  have hD := hD0.self (sz := s.heap.size)
  have hst9 := x_st hP
  obtain ⟨Qg, hQg⟩ : ∃ q, q = xG below "java/lang/IllegalStateException" ([.ref h0, .int p1] : List Value).toArray s 1 6 (va_A [(h0, .inr (0, [.ref t0, .ref t1, o2, o3, o4, o5, o6, o7, o8, .ref sg, o10, o11, o12, o13, o14, o15, o16, o17, o18])), (t0, .inr (1, [.ref b0, .int (nI 0)])), (t1, .inr (1, [.ref b1, .int (nI 0)])), (sg, .inr (2, [.int (nI 0), s1, g2, g3, g4, g5, g6]))] s.heap.size) := ⟨_, rfl⟩
  rw [← hQg]
  generalize hAe : va_A [(h0, .inr (0, [.ref t0, .ref t1, o2, o3, o4, o5, o6, o7, o8, .ref sg, o10, o11, o12, o13, o14, o15, o16, o17, o18])), (t0, .inr (1, [.ref b0, .int (nI 0)])), (t1, .inr (1, [.ref b1, .int (nI 0)])), (sg, .inr (2, [.int (nI 0), s1, g2, g3, g4, g5, g6]))] s.heap.size = A at hD hZ hQg hst9
  have hA : ∀ q : Nat, s.heap.size ≤ q → A q := fun q h => by rw [← hAe]; exact Or.inr h
  have hS : va_S A s.heap s.heap [] := va_S.rf
  have hP : va_P (dC, dI) CL [(h0, .inr (0, [.ref t0, .ref t1, o2, o3, o4, o5, o6, o7, o8, .ref sg, o10, o11, o12, o13, o14, o15, o16, o17, o18])), (t0, .inr (1, [.ref b0, .int (nI 0)])), (t1, .inr (1, [.ref b1, .int (nI 0)])), (sg, .inr (2, [.int (nI 0), s1, g2, g3, g4, g5, g6]))] s.heap := hP
  have hl := lv_entry ([.ref h0, .int p1]) (n := 2) (Nat.le_of_ble_eq_true rfl)
  rw [lg_entry_eq]
  generalize (lg_sl ([.ref h0, .int p1]) ++ List.replicate (2 - (lg_sl ([.ref h0, .int p1])).length) Slot.unset).toArray = ls at hl ⊢
  have hl : lv_has ls 2 [(0, .ref h0), (1, .int p1)] := hl
  show W p l e ({ frames := 7, cells := 1, slots := 6, locals := 101 } : Room) s m ([.ref h0, .int p1] : List Value).toArray below meth c s.heap [] 0 0 Qg (F0 m 0 ls [])
  refine lv_aload_n hx hb d_TB_other_0 rfl (lv_at hl 0 rfl) ?_
  refine k_finv (wr := [(sg, .inr (2, [.int (nI 0), s1, g2, g3, g4, g5, g6]))]) [0, 1, 2] [3] (k_runV (n := 0) (As := []) (rest := []) (wc := [(h0, .inr (0, [.ref t0, .ref t1, o2, o3, o4, o5, o6, o7, o8, .ref sg, o10, o11, o12, o13, o14, o15, o16, o17, o18])), (t0, .inr (1, [.ref b0, .int (nI 0)])), (t1, .inr (1, [.ref b1, .int (nI 0)]))]) ⟨hx, hb, hml, hown, hts⟩ (c_TB_takeTape l dC dI h0 t0 t1 (.ref b0) (.int (nI 0)) b1 (nI 0) o2 o3 o4 o5 o6 o7 o8 (.ref sg) o10 o11 o12 o13 o14 o15 o16 o17 o18 _ ) (kg_V m_171 m_172 m_173 m_163 (kg_code m_170)) (by decide +kernel) rfl rfl ⟨Nat.le_of_ble_eq_true rfl, Nat.le_of_ble_eq_true rfl⟩ [0, 1, 2] [] hP hD hK hS hA hZ hN (by rfl) (by decide) (by rfl) rfl rfl rfl rfl hl.1 rfl (Nat.le_of_ble_eq_true rfl) d_TB_other_1 ⟨(Nat.le_of_ble_eq_true rfl), (Nat.le_of_ble_eq_true rfl)⟩) hP hD hK hS hA (by rfl) (by rfl) (by decide) (by decide) (fun u9 H locs hw_2 hP hD hK hS => ?_)
  try dsimp only at hw_2
  have hP : va_P (dC, dI) CL [(sg, .inr (2, [.int (nI 0), s1, g2, g3, g4, g5, g6])), (h0, .inr (0, [.ref t1, .ref t0, o2, o3, o4, o5, o6, o7, o8, .ref sg, o10, o11, o12, o13, o14, o15, o16, o17, o18])), (t0, .inr (1, [.ref b0, .int (nI 0)])), (t1, .inr (1, [.ref b1, .int (nI 0)]))] H := hP
  have hD : va_D A [(sg, .inr (2, [.int (nI 0), s1, g2, g3, g4, g5, g6])), (h0, .inr (0, [.ref t1, .ref t0, o2, o3, o4, o5, o6, o7, o8, .ref sg, o10, o11, o12, o13, o14, o15, o16, o17, o18])), (t0, .inr (1, [.ref b0, .int (nI 0)])), (t1, .inr (1, [.ref b1, .int (nI 0)]))] := hD
  have hK : va_K (dC, dI) CL [] s := hK
  refine lv_aload_n hx hb d_TB_other_4 rfl (lv_at hl 0 rfl) ?_
  refine x_call (E := "java/lang/IllegalStateException") (n := 0) (As := []) (rest := []) (wc := [(h0, .inr (0, [.ref t1, .ref t0, o2, o3, o4, o5, o6, o7, o8, .ref sg, o10, o11, o12, o13, o14, o15, o16, o17, o18])), (sg, .inr (2, [.int (nI 0), s1, g2, g3, g4, g5, g6]))]) ⟨hx, hb, hml, hown, hts⟩ (c_TB_requireSet l hst dC dI h0 sg s1 g2 g3 g4 g5 g6 (.ref t1) (.ref t0) o2 o3 o4 o5 o6 o7 o8 o10 o11 o12 o13 o14 o15 o16 o17 o18 _ ) (kg_V m_196 m_197 m_198 m_163 (kg_code m_195)) (by decide +kernel) rfl rfl ⟨Nat.le_of_ble_eq_true rfl, Nat.le_of_ble_eq_true rfl⟩ [1, 0] [] hP hD hK hS hA hZ hN (by rfl) (by decide) (by rfl) rfl rfl rfl rfl hl.1 rfl (Nat.le_of_ble_eq_true rfl) d_TB_other_5 ⟨(Nat.le_of_ble_eq_true rfl), (Nat.le_of_ble_eq_true rfl)⟩ (fun ce q9 H locs hS hce hcv hcl => ?_)
  have hP : va_P (dC, dI) CL [] H := fun k q h => by simp at h
  have hD : va_D A [] := ⟨fun i j p q h => by simp at h, fun k q h => by simp at h⟩
  rw [hQg]
  exact x_out htab hlocks hce hcv hcl hS.2.2 (Nat.le_of_ble_eq_true rfl) (Nat.le_of_ble_eq_true rfl)
