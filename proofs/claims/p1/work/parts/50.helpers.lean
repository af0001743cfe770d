-- ThresholdBenchLaw.deal
set_option maxHeartbeats 4000000 in
set_option maxRecDepth 100000 in
theorem c_La_deal (l : Launch) (hst : l.stackTraces = false) (dC : Nat → ClassId) (dI : Nat → Nat → Nat) (h0 : Nat) (t0 : Nat) (t1 : Nat) (b0 : Nat) (b1 : Nat) (p1 : Int32) (p2 : Int32) (o2 : Value) (o3 : Value) (o4 : Value) (o5 : Value) (o6 : Value) (o7 : Value) (o8 : Value) (o9 : Value) (o10 : Value) (o11 : Value) (o12 : Value) (o13 : Value) (o14 : Value) (o15 : Value) (o16 : Value) (o17 : Value) (o18 : Value) (sz : Nat)  : Met l y_La_deal (.codeWith y_La_deal method_4_code 4 (some .int) [(0, 6, 9, 13)] :: AW) ({ frames := 7, cells := 1, slots := 6, locals := 105 } : Room) (va_Pc [.ref h0, .int p1, .int p2] (pw (dC, dI) CL [(h0, .inr (0, [.ref t0, .ref t1, o2, o3, o4, o5, o6, o7, o8, o9, o10, o11, o12, o13, o14, o15, o16, o17, o18])), (t0, .inr (1, [.ref b0, .int (nI 0)])), (t1, .inr (1, [.ref b1, .int (nI 0)]))] [] sz)) (va_Qi (fun (r : Int32) (u : Unit) => r = nI 1) (fun (u : Unit) t => qw (dC, dI) CL (va_A [(h0, .inr (0, [.ref t0, .ref t1, o2, o3, o4, o5, o6, o7, o8, o9, o10, o11, o12, o13, o14, o15, o16, o17, o18])), (t0, .inr (1, [.ref b0, .int (nI 0)])), (t1, .inr (1, [.ref b1, .int (nI 0)]))] sz) ((fun _ : Unit => []) u) ((fun _ : Unit => []) u) t) (va_A [(h0, .inr (0, [.ref t0, .ref t1, o2, o3, o4, o5, o6, o7, o8, o9, o10, o11, o12, o13, o14, o15, o16, o17, o18])), (t0, .inr (1, [.ref b0, .int (nI 0)])), (t1, .inr (1, [.ref b1, .int (nI 0)]))] sz)) 1 6 (va_A [(h0, .inr (0, [.ref t0, .ref t1, o2, o3, o4, o5, o6, o7, o8, o9, o10, o11, o12, o13, o14, o15, o16, o17, o18])), (t0, .inr (1, [.ref b0, .int (nI 0)])), (t1, .inr (1, [.ref b1, .int (nI 0)]))] sz) := by
  refine va_MetW (hh := [(0, 6, 9, 13)]) (cc := method_4_code) (maxL := 4) (ret := (some .int)) (by decide) rfl ?_
  intro p e s m args below meth c s₁ B hml hv
  obtain ⟨rfl, hsz, hP, hK, hD0, hZ, hN⟩ := hv
  have hx := B.exec
  have hb := B.bytes
  have hr := B.returns
  have hts := kw (atoms_spec (ws := .codeWith y_La_deal method_4_code 4 (some .int) [(0, 6, 9, 13)] :: AW) B.pre)
  have hown : s.vm.findClass R_La = some m.cls := findClass_of_methodNamed B.named
  have hlocks := B.notSynchronized
  subst hsz
  have hD := hD0.self (sz := s.heap.size)
  have htab : c.exceptionTable.toList = [⟨0, 6, 9, 13⟩] := x_table B (atoms_spec (ws := .codeWith y_La_deal method_4_code 4 (some .int) [(0, 6, 9, 13)] :: AW) B.pre _ List.mem_cons_self)
  obtain ⟨Qg, hQg⟩ : ∃ q, q = MQ below (va_Qi (fun (r : Int32) (u : Unit) => r = nI 1) (fun (u : Unit) t => qw (dC, dI) CL (va_A [(h0, .inr (0, [.ref t0, .ref t1, o2, o3, o4, o5, o6, o7, o8, o9, o10, o11, o12, o13, o14, o15, o16, o17, o18])), (t0, .inr (1, [.ref b0, .int (nI 0)])), (t1, .inr (1, [.ref b1, .int (nI 0)]))] s.heap.size) ((fun _ : Unit => []) u) ((fun _ : Unit => []) u) t) (va_A [(h0, .inr (0, [.ref t0, .ref t1, o2, o3, o4, o5, o6, o7, o8, o9, o10, o11, o12, o13, o14, o15, o16, o17, o18])), (t0, .inr (1, [.ref b0, .int (nI 0)])), (t1, .inr (1, [.ref b1, .int (nI 0)]))] s.heap.size)) ([.ref h0, .int p1, .int p2] : List Value).toArray s 1 6 (va_A [(h0, .inr (0, [.ref t0, .ref t1, o2, o3, o4, o5, o6, o7, o8, o9, o10, o11, o12, o13, o14, o15, o16, o17, o18])), (t0, .inr (1, [.ref b0, .int (nI 0)])), (t1, .inr (1, [.ref b1, .int (nI 0)]))] s.heap.size) := ⟨_, rfl⟩
  rw [← hQg]
  generalize hAe : va_A [(h0, .inr (0, [.ref t0, .ref t1, o2, o3, o4, o5, o6, o7, o8, o9, o10, o11, o12, o13, o14, o15, o16, o17, o18])), (t0, .inr (1, [.ref b0, .int (nI 0)])), (t1, .inr (1, [.ref b1, .int (nI 0)]))] s.heap.size = A at hD hZ hQg
  have hA : ∀ q : Nat, s.heap.size ≤ q → A q := fun q h => by rw [← hAe]; exact Or.inr h
  have hS : va_S A s.heap s.heap [] := va_S.rf
  have hP : va_P (dC, dI) CL [(h0, .inr (0, [.ref t0, .ref t1, o2, o3, o4, o5, o6, o7, o8, o9, o10, o11, o12, o13, o14, o15, o16, o17, o18])), (t0, .inr (1, [.ref b0, .int (nI 0)])), (t1, .inr (1, [.ref b1, .int (nI 0)]))] s.heap := hP
  have hl := lv_entry ([.ref h0, .int p1, .int p2]) (n := 4) (Nat.le_of_ble_eq_true rfl)
  rw [lg_entry_eq]
  generalize (lg_sl ([.ref h0, .int p1, .int p2]) ++ List.replicate (4 - (lg_sl ([.ref h0, .int p1, .int p2])).length) Slot.unset).toArray = ls at hl ⊢
  have hl : lv_has ls 4 [(0, .ref h0), (1, .int p1), (2, .int p2)] := hl
  show W p l e ({ frames := 7, cells := 1, slots := 6, locals := 105 } : Room) s m ([.ref h0, .int p1, .int p2] : List Value).toArray below meth c s.heap [] 0 0 Qg (F0 m 0 ls [])
  refine lv_aload_n hx hb d_La_deal_0 rfl (lv_at hl 0 rfl) ?_
  refine lv_iload_n hx hb d_La_deal_1 rfl (lv_at hl 1 rfl) ?_
  refine lv_iload_n hx hb d_La_deal_2 rfl (lv_at hl 2 rfl) ?_
  refine x_call (E := "java/lang/IllegalArgumentException") (n := 2) (As := [.int p1, .int p2]) (rest := []) (wc := [(h0, .inr (0, [.ref t0, .ref t1, o2, o3, o4, o5, o6, o7, o8, o9, o10, o11, o12, o13, o14, o15, o16, o17, o18])), (t0, .inr (1, [.ref b0, .int (nI 0)])), (t1, .inr (1, [.ref b1, .int (nI 0)]))]) ⟨hx, hb, hml, hown, hts⟩ (c_TB_deal l hst dC dI h0 t0 t1 b0 b1 p1 p2 o2 o3 o4 o5 o6 o7 o8 o9 o10 o11 o12 o13 o14 o15 o16 o17 o18 _ ) (kg_V m_438 m_439 m_440 m_163 (kg_code m_437)) (by decide +kernel) rfl rfl ⟨Nat.le_of_ble_eq_true rfl, Nat.le_of_ble_eq_true rfl⟩ [0, 1, 2] [] hP hD hK hS hA hZ hN (by rfl) (by decide) (by rfl) rfl rfl rfl rfl hl.1 rfl (Nat.le_of_ble_eq_true rfl) d_La_deal_3 ⟨(Nat.le_of_ble_eq_true rfl), (Nat.le_of_ble_eq_true rfl)⟩ (fun ce q9 H locs hS hce hcv hcl => ?_)
  have hP : va_P (dC, dI) CL [] H := fun k q h => by simp at h
  have hD : va_D A [] := ⟨fun i j p q h => by simp at h, fun k q h => by simp at h⟩
  refine x_catch hown ⟨0, 6, 9, 13⟩ [] htab (by decide) (by decide) (hts _ m_441) (va_Nw.use rfl hN.2.1) hce hcv hcl ?_
  refine lv_astore_n (lv' := [(3, .ref q9), (0, .ref h0), (1, .int p1), (2, .int p2)]) hx hb d_La_deal_9 rfl hl (by decide) rfl (fun ls hl => ?_)
  refine lv_iconst (v := (nI 1)) hx hb d_La_deal_10 (by decide +kernel) ?_
  have hP9 := hP.sub (ws' := []) [] rfl
  have hD9 := hD.sub (ws' := []) [] (by decide) rfl
  have hK9 := hK.sub (tys' := []) [] rfl
  rw [hQg]
  exact W.iret (v := (nI 1)) hx hb hr (fun t ht hW => ⟨⟨(nI 1), (), rfl, rfl, by rw [ht]; exact hP9, va_K.moved hW.alike hK9, hD9⟩, hS.F ht⟩) hS.2.2 d_La_deal_11

-- ThresholdBenchLaw.commit
set_option maxHeartbeats 4000000 in
set_option maxRecDepth 100000 in
theorem c_La_commit (l : Launch) (hst : l.stackTraces = false) (dC : Nat → ClassId) (dI : Nat → Nat → Nat) (h0 : Nat) (t0 : Nat) (t1 : Nat) (b0 : Nat) (b1 : Nat) (p1 : Int32) (o2 : Value) (o3 : Value) (o4 : Value) (o6 : Value) (o7 : Value) (o8 : Value) (o9 : Value) (o10 : Value) (o11 : Value) (o12 : Value) (o13 : Value) (o14 : Value) (o15 : Value) (o16 : Value) (o17 : Value) (o18 : Value) (sz : Nat)  : Met l y_La_commit (.codeWith y_La_commit method_6_code 3 (some .int) [(0, 5, 8, 23), (0, 5, 11, 25), (0, 5, 14, 13)] :: AW) ({ frames := 8, cells := 1, slots := 6, locals := 123 } : Room) (va_Pc [.ref h0, .int p1] (pw (dC, dI) CL [(h0, .inr (0, [.ref t0, .ref t1, o2, o3, o4, .int (nI 0), o6, o7, o8, o9, o10, o11, o12, o13, o14, o15, o16, o17, o18])), (t0, .inr (1, [.ref b0, .int (nI 0)])), (t1, .inr (1, [.ref b1, .int (nI 0)]))] [] sz)) (va_Qi (fun (r : Int32) (u : Unit) => r = nI 1) (fun (u : Unit) t => qw (dC, dI) CL (va_A [(h0, .inr (0, [.ref t0, .ref t1, o2, o3, o4, .int (nI 0), o6, o7, o8, o9, o10, o11, o12, o13, o14, o15, o16, o17, o18])), (t0, .inr (1, [.ref b0, .int (nI 0)])), (t1, .inr (1, [.ref b1, .int (nI 0)]))] sz) ((fun _ : Unit => []) u) ((fun _ : Unit => []) u) t) (va_A [(h0, .inr (0, [.ref t0, .ref t1, o2, o3, o4, .int (nI 0), o6, o7, o8, o9, o10, o11, o12, o13, o14, o15, o16, o17, o18])), (t0, .inr (1, [.ref b0, .int (nI 0)])), (t1, .inr (1, [.ref b1, .int (nI 0)]))] sz)) 1 6 (va_A [(h0, .inr (0, [.ref t0, .ref t1, o2, o3, o4, .int (nI 0), o6, o7, o8, o9, o10, o11, o12, o13, o14, o15, o16, o17, o18])), (t0, .inr (1, [.ref b0, .int (nI 0)])), (t1, .inr (1, [.ref b1, .int (nI 0)]))] sz) := by
  refine va_MetW (hh := [(0, 5, 8, 23), (0, 5, 11, 25), (0, 5, 14, 13)]) (cc := method_6_code) (maxL := 3) (ret := (some .int)) (by decide) rfl ?_
  intro p e s m args below meth c s₁ B hml hv
  obtain ⟨rfl, hsz, hP, hK, hD0, hZ, hN⟩ := hv
  have hx := B.exec
  have hb := B.bytes
  have hr := B.returns
  have hts := kw (atoms_spec (ws := .codeWith y_La_commit method_6_code 3 (some .int) [(0, 5, 8, 23), (0, 5, 11, 25), (0, 5, 14, 13)] :: AW) B.pre)
  have hown : s.vm.findClass R_La = some m.cls := findClass_of_methodNamed B.named
  have hlocks := B.notSynchronized
  subst hsz
  have hD := hD0.self (sz := s.heap.size)
  have htab : c.exceptionTable.toList = [⟨0, 5, 8, 23⟩, ⟨0, 5, 11, 25⟩, ⟨0, 5, 14, 13⟩] := x_table B (atoms_spec (ws := .codeWith y_La_commit method_6_code 3 (some .int) [(0, 5, 8, 23), (0, 5, 11, 25), (0, 5, 14, 13)] :: AW) B.pre _ List.mem_cons_self)
  obtain ⟨Qg, hQg⟩ : ∃ q, q = MQ below (va_Qi (fun (r : Int32) (u : Unit) => r = nI 1) (fun (u : Unit) t => qw (dC, dI) CL (va_A [(h0, .inr (0, [.ref t0, .ref t1, o2, o3, o4, .int (nI 0), o6, o7, o8, o9, o10, o11, o12, o13, o14, o15, o16, o17, o18])), (t0, .inr (1, [.ref b0, .int (nI 0)])), (t1, .inr (1, [.ref b1, .int (nI 0)]))] s.heap.size) ((fun _ : Unit => []) u) ((fun _ : Unit => []) u) t) (va_A [(h0, .inr (0, [.ref t0, .ref t1, o2, o3, o4, .int (nI 0), o6, o7, o8, o9, o10, o11, o12, o13, o14, o15, o16, o17, o18])), (t0, .inr (1, [.ref b0, .int (nI 0)])), (t1, .inr (1, [.ref b1, .int (nI 0)]))] s.heap.size)) ([.ref h0, .int p1] : List Value).toArray s 1 6 (va_A [(h0, .inr (0, [.ref t0, .ref t1, o2, o3, o4, .int (nI 0), o6, o7, o8, o9, o10, o11, o12, o13, o14, o15, o16, o17, o18])), (t0, .inr (1, [.ref b0, .int (nI 0)])), (t1, .inr (1, [.ref b1, .int (nI 0)]))] s.heap.size) := ⟨_, rfl⟩
  rw [← hQg]
  generalize hAe : va_A [(h0, .inr (0, [.ref t0, .ref t1, o2, o3, o4, .int (nI 0), o6, o7, o8, o9, o10, o11, o12, o13, o14, o15, o16, o17, o18])), (t0, .inr (1, [.ref b0, .int (nI 0)])), (t1, .inr (1, [.ref b1, .int (nI 0)]))] s.heap.size = A at hD hZ hQg
  have hA : ∀ q : Nat, s.heap.size ≤ q → A q := fun q h => by rw [← hAe]; exact Or.inr h
  have hS : va_S A s.heap s.heap [] := va_S.rf
  have hP : va_P (dC, dI) CL [(h0, .inr (0, [.ref t0, .ref t1, o2, o3, o4, .int (nI 0), o6, o7, o8, o9, o10, o11, o12, o13, o14, o15, o16, o17, o18])), (t0, .inr (1, [.ref b0, .int (nI 0)])), (t1, .inr (1, [.ref b1, .int (nI 0)]))] s.heap := hP
  have hl := lv_entry ([.ref h0, .int p1]) (n := 3) (Nat.le_of_ble_eq_true rfl)
  rw [lg_entry_eq]
  generalize (lg_sl ([.ref h0, .int p1]) ++ List.replicate (3 - (lg_sl ([.ref h0, .int p1])).length) Slot.unset).toArray = ls at hl ⊢
  have hl : lv_has ls 3 [(0, .ref h0), (1, .int p1)] := hl
  show W p l e ({ frames := 8, cells := 1, slots := 6, locals := 123 } : Room) s m ([.ref h0, .int p1] : List Value).toArray below meth c s.heap [] 0 0 Qg (F0 m 0 ls [])
  refine lv_aload_n hx hb d_La_commit_0 rfl (lv_at hl 0 rfl) ?_
  refine lv_iload_n hx hb d_La_commit_1 rfl (lv_at hl 1 rfl) ?_
  refine x_call (E := "java/lang/IllegalStateException") (n := 1) (As := [.int p1]) (rest := []) (wc := [(h0, .inr (0, [.ref t0, .ref t1, o2, o3, o4, .int (nI 0), o6, o7, o8, o9, o10, o11, o12, o13, o14, o15, o16, o17, o18])), (t0, .inr (1, [.ref b0, .int (nI 0)])), (t1, .inr (1, [.ref b1, .int (nI 0)]))]) ⟨hx, hb, hml, hown, hts⟩ (c_TB_commit l hst dC dI h0 t0 t1 b0 b1 p1 o2 o3 o4 o6 o7 o8 o9 o10 o11 o12 o13 o14 o15 o16 o17 o18 _ ) (kg_V m_443 m_444 m_445 m_163 (kg_code m_442)) (by decide +kernel) rfl rfl ⟨Nat.le_of_ble_eq_true rfl, Nat.le_of_ble_eq_true rfl⟩ [0, 1, 2] [] hP hD hK hS hA hZ hN (by rfl) (by decide) (by rfl) rfl rfl rfl rfl hl.1 rfl (Nat.le_of_ble_eq_true rfl) d_La_commit_2 ⟨(Nat.le_of_ble_eq_true rfl), (Nat.le_of_ble_eq_true rfl)⟩ (fun ce q9 H locs hS hce hcv hcl => ?_)
  have hP : va_P (dC, dI) CL [] H := fun k q h => by simp at h
  have hD : va_D A [] := ⟨fun i j p q h => by simp at h, fun k q h => by simp at h⟩
  refine x_catch hown ⟨0, 5, 8, 23⟩ [⟨0, 5, 11, 25⟩, ⟨0, 5, 14, 13⟩] htab (by decide) (by decide) (hts _ m_446) (va_Nw.use rfl hN.1) hce hcv hcl ?_
  refine lv_astore_n (lv' := [(2, .ref q9), (0, .ref h0), (1, .int p1)]) hx hb d_La_commit_8 rfl hl (by decide) rfl (fun ls hl => ?_)
  refine lv_iconst (v := (nI 1)) hx hb d_La_commit_9 (by decide +kernel) ?_
  have hP9 := hP.sub (ws' := []) [] rfl
  have hD9 := hD.sub (ws' := []) [] (by decide) rfl
  have hK9 := hK.sub (tys' := []) [] rfl
  rw [hQg]
  exact W.iret (v := (nI 1)) hx hb hr (fun t ht hW => ⟨⟨(nI 1), (), rfl, rfl, by rw [ht]; exact hP9, va_K.moved hW.alike hK9, hD9⟩, hS.F ht⟩) hS.2.2 d_La_commit_10

-- ThresholdBenchLaw.choose
set_option maxHeartbeats 4000000 in
set_option maxRecDepth 100000 in
theorem c_La_choose (l : Launch) (hst : l.stackTraces = false) (dC : Nat → ClassId) (dI : Nat → Nat → Nat) (h0 : Nat) (p1 : Int32) (o0 : Value) (o1 : Value) (o2 : Value) (o3 : Value) (o4 : Value) (o6 : Value) (o7 : Value) (o8 : Value) (o9 : Value) (o10 : Value) (o11 : Value) (o12 : Value) (o13 : Value) (o14 : Value) (o15 : Value) (o16 : Value) (o17 : Value) (o18 : Value) (sz : Nat)  : Met l y_La_choose (.codeWith y_La_choose method_7_code 3 (some .int) [(0, 5, 8, 23), (0, 5, 11, 13)] :: AW) ({ frames := 8, cells := 1, slots := 6, locals := 123 } : Room) (va_Pc [.ref h0, .int p1] (pw (dC, dI) CL [(h0, .inr (0, [o0, o1, o2, o3, o4, .int (nI 0), o6, o7, o8, o9, o10, o11, o12, o13, o14, o15, o16, o17, o18]))] [] sz)) (va_Qi (fun (r : Int32) (u : Unit) => r = nI 1) (fun (u : Unit) t => qw (dC, dI) CL (va_A [(h0, .inr (0, [o0, o1, o2, o3, o4, .int (nI 0), o6, o7, o8, o9, o10, o11, o12, o13, o14, o15, o16, o17, o18]))] sz) ((fun _ : Unit => []) u) ((fun _ : Unit => []) u) t) (va_A [(h0, .inr (0, [o0, o1, o2, o3, o4, .int (nI 0), o6, o7, o8, o9, o10, o11, o12, o13, o14, o15, o16, o17, o18]))] sz)) 1 6 (va_A [(h0, .inr (0, [o0, o1, o2, o3, o4, .int (nI 0), o6, o7, o8, o9, o10, o11, o12, o13, o14, o15, o16, o17, o18]))] sz) := by
  refine va_MetW (hh := [(0, 5, 8, 23), (0, 5, 11, 13)]) (cc := method_7_code) (maxL := 3) (ret := (some .int)) (by decide) rfl ?_
  intro p e s m args below meth c s₁ B hml hv
  obtain ⟨rfl, hsz, hP, hK, hD0, hZ, hN⟩ := hv
  have hx := B.exec
  have hb := B.bytes
  have hr := B.returns
  have hts := kw (atoms_spec (ws := .codeWith y_La_choose method_7_code 3 (some .int) [(0, 5, 8, 23), (0, 5, 11, 13)] :: AW) B.pre)
  have hown : s.vm.findClass R_La = some m.cls := findClass_of_methodNamed B.named
  have hlocks := B.notSynchronized
  subst hsz
  have hD := hD0.self (sz := s.heap.size)
  have htab : c.exceptionTable.toList = [⟨0, 5, 8, 23⟩, ⟨0, 5, 11, 13⟩] := x_table B (atoms_spec (ws := .codeWith y_La_choose method_7_code 3 (some .int) [(0, 5, 8, 23), (0, 5, 11, 13)] :: AW) B.pre _ List.mem_cons_self)
  obtain ⟨Qg, hQg⟩ : ∃ q, q = MQ below (va_Qi (fun (r : Int32) (u : Unit) => r = nI 1) (fun (u : Unit) t => qw (dC, dI) CL (va_A [(h0, .inr (0, [o0, o1, o2, o3, o4, .int (nI 0), o6, o7, o8, o9, o10, o11, o12, o13, o14, o15, o16, o17, o18]))] s.heap.size) ((fun _ : Unit => []) u) ((fun _ : Unit => []) u) t) (va_A [(h0, .inr (0, [o0, o1, o2, o3, o4, .int (nI 0), o6, o7, o8, o9, o10, o11, o12, o13, o14, o15, o16, o17, o18]))] s.heap.size)) ([.ref h0, .int p1] : List Value).toArray s 1 6 (va_A [(h0, .inr (0, [o0, o1, o2, o3, o4, .int (nI 0), o6, o7, o8, o9, o10, o11, o12, o13, o14, o15, o16, o17, o18]))] s.heap.size) := ⟨_, rfl⟩
  rw [← hQg]
  generalize hAe : va_A [(h0, .inr (0, [o0, o1, o2, o3, o4, .int (nI 0), o6, o7, o8, o9, o10, o11, o12, o13, o14, o15, o16, o17, o18]))] s.heap.size = A at hD hZ hQg
  have hA : ∀ q : Nat, s.heap.size ≤ q → A q := fun q h => by rw [← hAe]; exact Or.inr h
  have hS : va_S A s.heap s.heap [] := va_S.rf
  have hP : va_P (dC, dI) CL [(h0, .inr (0, [o0, o1, o2, o3, o4, .int (nI 0), o6, o7, o8, o9, o10, o11, o12, o13, o14, o15, o16, o17, o18]))] s.heap := hP
  have hl := lv_entry ([.ref h0, .int p1]) (n := 3) (Nat.le_of_ble_eq_true rfl)
  rw [lg_entry_eq]
  generalize (lg_sl ([.ref h0, .int p1]) ++ List.replicate (3 - (lg_sl ([.ref h0, .int p1])).length) Slot.unset).toArray = ls at hl ⊢
  have hl : lv_has ls 3 [(0, .ref h0), (1, .int p1)] := hl
  show W p l e ({ frames := 8, cells := 1, slots := 6, locals := 123 } : Room) s m ([.ref h0, .int p1] : List Value).toArray below meth c s.heap [] 0 0 Qg (F0 m 0 ls [])
  refine lv_aload_n hx hb d_La_choose_0 rfl (lv_at hl 0 rfl) ?_
  refine lv_iload_n hx hb d_La_choose_1 rfl (lv_at hl 1 rfl) ?_
  refine x_call (E := "java/lang/IllegalStateException") (n := 1) (As := [.int p1]) (rest := []) (wc := [(h0, .inr (0, [o0, o1, o2, o3, o4, .int (nI 0), o6, o7, o8, o9, o10, o11, o12, o13, o14, o15, o16, o17, o18]))]) ⟨hx, hb, hml, hown, hts⟩ (c_TB_choose l hst dC dI h0 p1 o0 o1 o2 o3 o4 o6 o7 o8 o9 o10 o11 o12 o13 o14 o15 o16 o17 o18 _ ) (kg_V m_448 m_449 m_450 m_163 (kg_code m_447)) (by decide +kernel) rfl rfl ⟨Nat.le_of_ble_eq_true rfl, Nat.le_of_ble_eq_true rfl⟩ [0] [] hP hD hK hS hA hZ hN (by rfl) (by decide) (by rfl) rfl rfl rfl rfl hl.1 rfl (Nat.le_of_ble_eq_true rfl) d_La_choose_2 ⟨(Nat.le_of_ble_eq_true rfl), (Nat.le_of_ble_eq_true rfl)⟩ (fun ce q9 H locs hS hce hcv hcl => ?_)
  have hP : va_P (dC, dI) CL [] H := fun k q h => by simp at h
  have hD : va_D A [] := ⟨fun i j p q h => by simp at h, fun k q h => by simp at h⟩
  refine x_catch hown ⟨0, 5, 8, 23⟩ [⟨0, 5, 11, 13⟩] htab (by decide) (by decide) (hts _ m_446) (va_Nw.use rfl hN.1) hce hcv hcl ?_
  refine lv_astore_n (lv' := [(2, .ref q9), (0, .ref h0), (1, .int p1)]) hx hb d_La_choose_8 rfl hl (by decide) rfl (fun ls hl => ?_)
  refine lv_iconst (v := (nI 1)) hx hb d_La_choose_9 (by decide +kernel) ?_
  have hP9 := hP.sub (ws' := []) [] rfl
  have hD9 := hD.sub (ws' := []) [] (by decide) rfl
  have hK9 := hK.sub (tys' := []) [] rfl
  rw [hQg]
  exact W.iret (v := (nI 1)) hx hb hr (fun t ht hW => ⟨⟨(nI 1), (), rfl, rfl, by rw [ht]; exact hP9, va_K.moved hW.alike hK9, hD9⟩, hS.F ht⟩) hS.2.2 d_La_choose_10

-- ThresholdBenchLaw.share
set_option maxHeartbeats 4000000 in
set_option maxRecDepth 100000 in
theorem c_La_share (l : Launch) (hst : l.stackTraces = false) (dC : Nat → ClassId) (dI : Nat → Nat → Nat) (h0 : Nat) (sg : Nat) (s1 : Value) (g2 : Value) (g3 : Value) (g4 : Value) (g5 : Value) (g6 : Value) (p1 : Int32) (o0 : Value) (o1 : Value) (o2 : Value) (o3 : Value) (o4 : Value) (o5 : Value) (o6 : Value) (o7 : Value) (o8 : Value) (o10 : Value) (o11 : Value) (o12 : Value) (o13 : Value) (o14 : Value) (o15 : Value) (o16 : Value) (o17 : Value) (o18 : Value) (sz : Nat)  : Met l y_La_share (.codeWith y_La_share method_8_code 3 (some .int) [(0, 5, 8, 23), (0, 5, 11, 25), (0, 5, 14, 13)] :: AW) ({ frames := 8, cells := 1, slots := 6, locals := 124 } : Room) (va_Pc [.ref h0, .int p1] (pw (dC, dI) CL [(h0, .inr (0, [o0, o1, o2, o3, o4, o5, o6, o7, o8, .ref sg, o10, o11, o12, o13, o14, o15, o16, o17, o18])), (sg, .inr (2, [.int (nI 0), s1, g2, g3, g4, g5, g6]))] [] sz)) (va_Qi (fun (r : Int32) (u : Unit) => r = nI 1) (fun (u : Unit) t => qw (dC, dI) CL (va_A [(h0, .inr (0, [o0, o1, o2, o3, o4, o5, o6, o7, o8, .ref sg, o10, o11, o12, o13, o14, o15, o16, o17, o18])), (sg, .inr (2, [.int (nI 0), s1, g2, g3, g4, g5, g6]))] sz) ((fun _ : Unit => []) u) ((fun _ : Unit => []) u) t) (va_A [(h0, .inr (0, [o0, o1, o2, o3, o4, o5, o6, o7, o8, .ref sg, o10, o11, o12, o13, o14, o15, o16, o17, o18])), (sg, .inr (2, [.int (nI 0), s1, g2, g3, g4, g5, g6]))] sz)) 1 6 (va_A [(h0, .inr (0, [o0, o1, o2, o3, o4, o5, o6, o7, o8, .ref sg, o10, o11, o12, o13, o14, o15, o16, o17, o18])), (sg, .inr (2, [.int (nI 0), s1, g2, g3, g4, g5, g6]))] sz) := by
  refine va_MetW (hh := [(0, 5, 8, 23), (0, 5, 11, 25), (0, 5, 14, 13)]) (cc := method_8_code) (maxL := 3) (ret := (some .int)) (by decide) rfl ?_
  intro p e s m args below meth c s₁ B hml hv
  obtain ⟨rfl, hsz, hP, hK, hD0, hZ, hN⟩ := hv
  have hx := B.exec
  have hb := B.bytes
  have hr := B.returns
  have hts := kw (atoms_spec (ws := .codeWith y_La_share method_8_code 3 (some .int) [(0, 5, 8, 23), (0, 5, 11, 25), (0, 5, 14, 13)] :: AW) B.pre)
  have hown : s.vm.findClass R_La = some m.cls := findClass_of_methodNamed B.named
  have hlocks := B.notSynchronized
  subst hsz
  have hD := hD0.self (sz := s.heap.size)
  have htab : c.exceptionTable.toList = [⟨0, 5, 8, 23⟩, ⟨0, 5, 11, 25⟩, ⟨0, 5, 14, 13⟩] := x_table B (atoms_spec (ws := .codeWith y_La_share method_8_code 3 (some .int) [(0, 5, 8, 23), (0, 5, 11, 25), (0, 5, 14, 13)] :: AW) B.pre _ List.mem_cons_self)
  obtain ⟨Qg, hQg⟩ : ∃ q, q = MQ below (va_Qi (fun (r : Int32) (u : Unit) => r = nI 1) (fun (u : Unit) t => qw (dC, dI) CL (va_A [(h0, .inr (0, [o0, o1, o2, o3, o4, o5, o6, o7, o8, .ref sg, o10, o11, o12, o13, o14, o15, o16, o17, o18])), (sg, .inr (2, [.int (nI 0), s1, g2, g3, g4, g5, g6]))] s.heap.size) ((fun _ : Unit => []) u) ((fun _ : Unit => []) u) t) (va_A [(h0, .inr (0, [o0, o1, o2, o3, o4, o5, o6, o7, o8, .ref sg, o10, o11, o12, o13, o14, o15, o16, o17, o18])), (sg, .inr (2, [.int (nI 0), s1, g2, g3, g4, g5, g6]))] s.heap.size)) ([.ref h0, .int p1] : List Value).toArray s 1 6 (va_A [(h0, .inr (0, [o0, o1, o2, o3, o4, o5, o6, o7, o8, .ref sg, o10, o11, o12, o13, o14, o15, o16, o17, o18])), (sg, .inr (2, [.int (nI 0), s1, g2, g3, g4, g5, g6]))] s.heap.size) := ⟨_, rfl⟩
  rw [← hQg]
  generalize hAe : va_A [(h0, .inr (0, [o0, o1, o2, o3, o4, o5, o6, o7, o8, .ref sg, o10, o11, o12, o13, o14, o15, o16, o17, o18])), (sg, .inr (2, [.int (nI 0), s1, g2, g3, g4, g5, g6]))] s.heap.size = A at hD hZ hQg
  have hA : ∀ q : Nat, s.heap.size ≤ q → A q := fun q h => by rw [← hAe]; exact Or.inr h
  have hS : va_S A s.heap s.heap [] := va_S.rf
  have hP : va_P (dC, dI) CL [(h0, .inr (0, [o0, o1, o2, o3, o4, o5, o6, o7, o8, .ref sg, o10, o11, o12, o13, o14, o15, o16, o17, o18])), (sg, .inr (2, [.int (nI 0), s1, g2, g3, g4, g5, g6]))] s.heap := hP
  have hl := lv_entry ([.ref h0, .int p1]) (n := 3) (Nat.le_of_ble_eq_true rfl)
  rw [lg_entry_eq]
  generalize (lg_sl ([.ref h0, .int p1]) ++ List.replicate (3 - (lg_sl ([.ref h0, .int p1])).length) Slot.unset).toArray = ls at hl ⊢
  have hl : lv_has ls 3 [(0, .ref h0), (1, .int p1)] := hl
  show W p l e ({ frames := 8, cells := 1, slots := 6, locals := 124 } : Room) s m ([.ref h0, .int p1] : List Value).toArray below meth c s.heap [] 0 0 Qg (F0 m 0 ls [])
  refine lv_aload_n hx hb d_La_share_0 rfl (lv_at hl 0 rfl) ?_
  refine lv_iload_n hx hb d_La_share_1 rfl (lv_at hl 1 rfl) ?_
  refine x_call (E := "java/lang/IllegalStateException") (n := 1) (As := [.int p1]) (rest := []) (wc := [(h0, .inr (0, [o0, o1, o2, o3, o4, o5, o6, o7, o8, .ref sg, o10, o11, o12, o13, o14, o15, o16, o17, o18])), (sg, .inr (2, [.int (nI 0), s1, g2, g3, g4, g5, g6]))]) ⟨hx, hb, hml, hown, hts⟩ (c_TB_share l hst dC dI h0 sg s1 g2 g3 g4 g5 g6 p1 o0 o1 o2 o3 o4 o5 o6 o7 o8 o10 o11 o12 o13 o14 o15 o16 o17 o18 _ ) (kg_V m_452 m_453 m_454 m_163 (kg_code m_451)) (by decide +kernel) rfl rfl ⟨Nat.le_of_ble_eq_true rfl, Nat.le_of_ble_eq_true rfl⟩ [0, 1] [] hP hD hK hS hA hZ hN (by rfl) (by decide) (by rfl) rfl rfl rfl rfl hl.1 rfl (Nat.le_of_ble_eq_true rfl) d_La_share_2 ⟨(Nat.le_of_ble_eq_true rfl), (Nat.le_of_ble_eq_true rfl)⟩ (fun ce q9 H locs hS hce hcv hcl => ?_)
  have hP : va_P (dC, dI) CL [] H := fun k q h => by simp at h
  have hD : va_D A [] := ⟨fun i j p q h => by simp at h, fun k q h => by simp at h⟩
  refine x_catch hown ⟨0, 5, 8, 23⟩ [⟨0, 5, 11, 25⟩, ⟨0, 5, 14, 13⟩] htab (by decide) (by decide) (hts _ m_446) (va_Nw.use rfl hN.1) hce hcv hcl ?_
  refine lv_astore_n (lv' := [(2, .ref q9), (0, .ref h0), (1, .int p1)]) hx hb d_La_share_8 rfl hl (by decide) rfl (fun ls hl => ?_)
  refine lv_iconst (v := (nI 1)) hx hb d_La_share_9 (by decide +kernel) ?_
  have hP9 := hP.sub (ws' := []) [] rfl
  have hD9 := hD.sub (ws' := []) [] (by decide) rfl
  have hK9 := hK.sub (tys' := []) [] rfl
  rw [hQg]
  exact W.iret (v := (nI 1)) hx hb hr (fun t ht hW => ⟨⟨(nI 1), (), rfl, rfl, by rw [ht]; exact hP9, va_K.moved hW.alike hK9, hD9⟩, hS.F ht⟩) hS.2.2 d_La_share_10

-- ThresholdBenchLaw.other
set_option maxHeartbeats 4000000 in
set_option maxRecDepth 100000 in
theorem c_La_other (l : Launch) (hst : l.stackTraces = false) (dC : Nat → ClassId) (dI : Nat → Nat → Nat) (h0 : Nat) (t0 : Nat) (t1 : Nat) (b0 : Nat) (b1 : Nat) (sg : Nat) (s1 : Value) (g2 : Value) (g3 : Value) (g4 : Value) (g5 : Value) (g6 : Value) (p1 : Int32) (o2 : Value) (o3 : Value) (o4 : Value) (o5 : Value) (o6 : Value) (o7 : Value) (o8 : Value) (o10 : Value) (o11 : Value) (o12 : Value) (o13 : Value) (o14 : Value) (o15 : Value) (o16 : Value) (o17 : Value) (o18 : Value) (sz : Nat)  : Met l y_La_other (.codeWith y_La_other method_9_code 3 (some .int) [(0, 5, 8, 23), (0, 5, 11, 25), (0, 5, 14, 13)] :: AW) ({ frames := 8, cells := 1, slots := 6, locals := 122 } : Room) (va_Pc [.ref h0, .int p1] (pw (dC, dI) CL [(h0, .inr (0, [.ref t0, .ref t1, o2, o3, o4, o5, o6, o7, o8, .ref sg, o10, o11, o12, o13, o14, o15, o16, o17, o18])), (t0, .inr (1, [.ref b0, .int (nI 0)])), (t1, .inr (1, [.ref b1, .int (nI 0)])), (sg, .inr (2, [.int (nI 0), s1, g2, g3, g4, g5, g6]))] [] sz)) (va_Qi (fun (r : Int32) (u : Unit) => r = nI 1) (fun (u : Unit) t => qw (dC, dI) CL (va_A [(h0, .inr (0, [.ref t0, .ref t1, o2, o3, o4, o5, o6, o7, o8, .ref sg, o10, o11, o12, o13, o14, o15, o16, o17, o18])), (t0, .inr (1, [.ref b0, .int (nI 0)])), (t1, .inr (1, [.ref b1, .int (nI 0)])), (sg, .inr (2, [.int (nI 0), s1, g2, g3, g4, g5, g6]))] sz) ((fun _ : Unit => []) u) ((fun _ : Unit => []) u) t) (va_A [(h0, .inr (0, [.ref t0, .ref t1, o2, o3, o4, o5, o6, o7, o8, .ref sg, o10, o11, o12, o13, o14, o15, o16, o17, o18])), (t0, .inr (1, [.ref b0, .int (nI 0)])), (t1, .inr (1, [.ref b1, .int (nI 0)])), (sg, .inr (2, [.int (nI 0), s1, g2, g3, g4, g5, g6]))] sz)) 1 6 (va_A [(h0, .inr (0, [.ref t0, .ref t1, o2, o3, o4, o5, o6, o7, o8, .ref sg, o10, o11, o12, o13, o14, o15, o16, o17, o18])), (t0, .inr (1, [.ref b0, .int (nI 0)])), (t1, .inr (1, [.ref b1, .int (nI 0)])), (sg, .inr (2, [.int (nI 0), s1, g2, g3, g4, g5, g6]))] sz) := by
  refine va_MetW (hh := [(0, 5, 8, 23), (0, 5, 11, 25), (0, 5, 14, 13)]) (cc := method_9_code) (maxL := 3) (ret := (some .int)) (by decide) rfl ?_
  intro p e s m args below meth c s₁ B hml hv
  obtain ⟨rfl, hsz, hP, hK, hD0, hZ, hN⟩ := hv
  have hx := B.exec
  have hb := B.bytes
  have hr := B.returns
  have hts := kw (atoms_spec (ws := .codeWith y_La_other method_9_code 3 (some .int) [(0, 5, 8, 23), (0, 5, 11, 25), (0, 5, 14, 13)] :: AW) B.pre)
  have hown : s.vm.findClass R_La = some m.cls := findClass_of_methodNamed B.named
  have hlocks := B.notSynchronized
  subst hsz
  have hD := hD0.self (sz := s.heap.size)
  have htab : c.exceptionTable.toList = [⟨0, 5, 8, 23⟩, ⟨0, 5, 11, 25⟩, ⟨0, 5, 14, 13⟩] := x_table B (atoms_spec (ws := .codeWith y_La_other method_9_code 3 (some .int) [(0, 5, 8, 23), (0, 5, 11, 25), (0, 5, 14, 13)] :: AW) B.pre _ List.mem_cons_self)
  obtain ⟨Qg, hQg⟩ : ∃ q, q = MQ below (va_Qi (fun (r : Int32) (u : Unit) => r = nI 1) (fun (u : Unit) t => qw (dC, dI) CL (va_A [(h0, .inr (0, [.ref t0, .ref t1, o2, o3, o4, o5, o6, o7, o8, .ref sg, o10, o11, o12, o13, o14, o15, o16, o17, o18])), (t0, .inr (1, [.ref b0, .int (nI 0)])), (t1, .inr (1, [.ref b1, .int (nI 0)])), (sg, .inr (2, [.int (nI 0), s1, g2, g3, g4, g5, g6]))] s.heap.size) ((fun _ : Unit => []) u) ((fun _ : Unit => []) u) t) (va_A [(h0, .inr (0, [.ref t0, .ref t1, o2, o3, o4, o5, o6, o7, o8, .ref sg, o10, o11, o12, o13, o14, o15, o16, o17, o18])), (t0, .inr (1, [.ref b0, .int (nI 0)])), (t1, .inr (1, [.ref b1, .int (nI 0)])), (sg, .inr (2, [.int (nI 0), s1, g2, g3, g4, g5, g6]))] s.heap.size)) ([.ref h0, .int p1] : List Value).toArray s 1 6 (va_A [(h0, .inr (0, [.ref t0, .ref t1, o2, o3, o4, o5, o6, o7, o8, .ref sg, o10, o11, o12, o13, o14, o15, o16, o17, o18])), (t0, .inr (1, [.ref b0, .int (nI 0)])), (t1, .inr (1, [.ref b1, .int (nI 0)])), (sg, .inr (2, [.int (nI 0), s1, g2, g3, g4, g5, g6]))] s.heap.size) := ⟨_, rfl⟩
  rw [← hQg]
  generalize hAe : va_A [(h0, .inr (0, [.ref t0, .ref t1, o2, o3, o4, o5, o6, o7, o8, .ref sg, o10, o11, o12, o13, o14, o15, o16, o17, o18])), (t0, .inr (1, [.ref b0, .int (nI 0)])), (t1, .inr (1, [.ref b1, .int (nI 0)])), (sg, .inr (2, [.int (nI 0), s1, g2, g3, g4, g5, g6]))] s.heap.size = A at hD hZ hQg
  have hA : ∀ q : Nat, s.heap.size ≤ q → A q := fun q h => by rw [← hAe]; exact Or.inr h
  have hS : va_S A s.heap s.heap [] := va_S.rf
  have hP : va_P (dC, dI) CL [(h0, .inr (0, [.ref t0, .ref t1, o2, o3, o4, o5, o6, o7, o8, .ref sg, o10, o11, o12, o13, o14, o15, o16, o17, o18])), (t0, .inr (1, [.ref b0, .int (nI 0)])), (t1, .inr (1, [.ref b1, .int (nI 0)])), (sg, .inr (2, [.int (nI 0), s1, g2, g3, g4, g5, g6]))] s.heap := hP
  have hl := lv_entry ([.ref h0, .int p1]) (n := 3) (Nat.le_of_ble_eq_true rfl)
  rw [lg_entry_eq]
  generalize (lg_sl ([.ref h0, .int p1]) ++ List.replicate (3 - (lg_sl ([.ref h0, .int p1])).length) Slot.unset).toArray = ls at hl ⊢
  have hl : lv_has ls 3 [(0, .ref h0), (1, .int p1)] := hl
  show W p l e ({ frames := 8, cells := 1, slots := 6, locals := 122 } : Room) s m ([.ref h0, .int p1] : List Value).toArray below meth c s.heap [] 0 0 Qg (F0 m 0 ls [])
  refine lv_aload_n hx hb d_La_other_0 rfl (lv_at hl 0 rfl) ?_
  refine lv_iload_n hx hb d_La_other_1 rfl (lv_at hl 1 rfl) ?_
  refine x_call (E := "java/lang/IllegalStateException") (n := 1) (As := [.int p1]) (rest := []) (wc := [(h0, .inr (0, [.ref t0, .ref t1, o2, o3, o4, o5, o6, o7, o8, .ref sg, o10, o11, o12, o13, o14, o15, o16, o17, o18])), (t0, .inr (1, [.ref b0, .int (nI 0)])), (t1, .inr (1, [.ref b1, .int (nI 0)])), (sg, .inr (2, [.int (nI 0), s1, g2, g3, g4, g5, g6]))]) ⟨hx, hb, hml, hown, hts⟩ (c_TB_other l hst dC dI h0 t0 t1 b0 b1 sg s1 g2 g3 g4 g5 g6 p1 o2 o3 o4 o5 o6 o7 o8 o10 o11 o12 o13 o14 o15 o16 o17 o18 _ ) (kg_V m_456 m_457 m_458 m_163 (kg_code m_455)) (by decide +kernel) rfl rfl ⟨Nat.le_of_ble_eq_true rfl, Nat.le_of_ble_eq_true rfl⟩ [0, 1, 2, 3] [] hP hD hK hS hA hZ hN (by rfl) (by decide) (by rfl) rfl rfl rfl rfl hl.1 rfl (Nat.le_of_ble_eq_true rfl) d_La_other_2 ⟨(Nat.le_of_ble_eq_true rfl), (Nat.le_of_ble_eq_true rfl)⟩ (fun ce q9 H locs hS hce hcv hcl => ?_)
  have hP : va_P (dC, dI) CL [] H := fun k q h => by simp at h
  have hD : va_D A [] := ⟨fun i j p q h => by simp at h, fun k q h => by simp at h⟩
  refine x_catch hown ⟨0, 5, 8, 23⟩ [⟨0, 5, 11, 25⟩, ⟨0, 5, 14, 13⟩] htab (by decide) (by decide) (hts _ m_446) (va_Nw.use rfl hN.1) hce hcv hcl ?_
  refine lv_astore_n (lv' := [(2, .ref q9), (0, .ref h0), (1, .int p1)]) hx hb d_La_other_8 rfl hl (by decide) rfl (fun ls hl => ?_)
  refine lv_iconst (v := (nI 1)) hx hb d_La_other_9 (by decide +kernel) ?_
  have hP9 := hP.sub (ws' := []) [] rfl
  have hD9 := hD.sub (ws' := []) [] (by decide) rfl
  have hK9 := hK.sub (tys' := []) [] rfl
  rw [hQg]
  exact W.iret (v := (nI 1)) hx hb hr (fun t ht hW => ⟨⟨(nI 1), (), rfl, rfl, by rw [ht]; exact hP9, va_K.moved hW.alike hK9, hD9⟩, hS.F ht⟩) hS.2.2 d_La_other_10

-- ThresholdBenchLaw.change
set_option maxHeartbeats 4000000 in
set_option maxRecDepth 100000 in
theorem c_La_change (l : Launch) (hst : l.stackTraces = false) (dC : Nat → ClassId) (dI : Nat → Nat → Nat) (h0 : Nat) (t0 : Nat) (t1 : Nat) (b0 : Nat) (b1 : Nat) (p1 : Int32) (o2 : Value) (o3 : Value) (o4 : Value) (o6 : Value) (o7 : Value) (o8 : Value) (o9 : Value) (o10 : Value) (o11 : Value) (o12 : Value) (o13 : Value) (o14 : Value) (o15 : Value) (o16 : Value) (o17 : Value) (o18 : Value) (ob : Nat) (sz : Nat)  : Met l y_La_change (.codeWith y_La_change method_5_code 4 (some .int) [(0, 16, 19, 23), (0, 16, 22, 25), (0, 16, 25, 13)] :: AW) ({ frames := 8, cells := 1, slots := 6, locals := 123 } : Room) (va_Pc [.ref h0, .int p1, .ref ob] (pw (dC, dI) CL [(h0, .inr (0, [.ref t0, .ref t1, o2, o3, o4, .int (nI 0), o6, o7, o8, o9, o10, o11, o12, o13, o14, o15, o16, o17, o18])), (t0, .inr (1, [.ref b0, .int (nI 0)])), (t1, .inr (1, [.ref b1, .int (nI 0)]))] [] sz)) (va_Qi (fun (r : Int32) (u : Unit) => r = nI 1) (fun (u : Unit) t => qw (dC, dI) CL (va_A [(h0, .inr (0, [.ref t0, .ref t1, o2, o3, o4, .int (nI 0), o6, o7, o8, o9, o10, o11, o12, o13, o14, o15, o16, o17, o18])), (t0, .inr (1, [.ref b0, .int (nI 0)])), (t1, .inr (1, [.ref b1, .int (nI 0)]))] sz) ((fun _ : Unit => []) u) ((fun _ : Unit => []) u) t) (va_A [(h0, .inr (0, [.ref t0, .ref t1, o2, o3, o4, .int (nI 0), o6, o7, o8, o9, o10, o11, o12, o13, o14, o15, o16, o17, o18])), (t0, .inr (1, [.ref b0, .int (nI 0)])), (t1, .inr (1, [.ref b1, .int (nI 0)]))] sz)) 1 6 (va_A [(h0, .inr (0, [.ref t0, .ref t1, o2, o3, o4, .int (nI 0), o6, o7, o8, o9, o10, o11, o12, o13, o14, o15, o16, o17, o18])), (t0, .inr (1, [.ref b0, .int (nI 0)])), (t1, .inr (1, [.ref b1, .int (nI 0)]))] sz) := by
  refine va_MetW (hh := [(0, 16, 19, 23), (0, 16, 22, 25), (0, 16, 25, 13)]) (cc := method_5_code) (maxL := 4) (ret := (some .int)) (by decide) rfl ?_
  intro p e s m args below meth c s₁ B hml hv
  obtain ⟨rfl, hsz, hP, hK, hD0, hZ, hN⟩ := hv
  have hx := B.exec
  have hb := B.bytes
  have hr := B.returns
  have hts := kw (atoms_spec (ws := .codeWith y_La_change method_5_code 4 (some .int) [(0, 16, 19, 23), (0, 16, 22, 25), (0, 16, 25, 13)] :: AW) B.pre)
  have hown : s.vm.findClass R_La = some m.cls := findClass_of_methodNamed B.named
  have hlocks := B.notSynchronized
  subst hsz
  have hD := hD0.self (sz := s.heap.size)
  have htab : c.exceptionTable.toList = [⟨0, 16, 19, 23⟩, ⟨0, 16, 22, 25⟩, ⟨0, 16, 25, 13⟩] := x_table B (atoms_spec (ws := .codeWith y_La_change method_5_code 4 (some .int) [(0, 16, 19, 23), (0, 16, 22, 25), (0, 16, 25, 13)] :: AW) B.pre _ List.mem_cons_self)
  obtain ⟨Qg, hQg⟩ : ∃ q, q = MQ below (va_Qi (fun (r : Int32) (u : Unit) => r = nI 1) (fun (u : Unit) t => qw (dC, dI) CL (va_A [(h0, .inr (0, [.ref t0, .ref t1, o2, o3, o4, .int (nI 0), o6, o7, o8, o9, o10, o11, o12, o13, o14, o15, o16, o17, o18])), (t0, .inr (1, [.ref b0, .int (nI 0)])), (t1, .inr (1, [.ref b1, .int (nI 0)]))] s.heap.size) ((fun _ : Unit => []) u) ((fun _ : Unit => []) u) t) (va_A [(h0, .inr (0, [.ref t0, .ref t1, o2, o3, o4, .int (nI 0), o6, o7, o8, o9, o10, o11, o12, o13, o14, o15, o16, o17, o18])), (t0, .inr (1, [.ref b0, .int (nI 0)])), (t1, .inr (1, [.ref b1, .int (nI 0)]))] s.heap.size)) ([.ref h0, .int p1, .ref ob] : List Value).toArray s 1 6 (va_A [(h0, .inr (0, [.ref t0, .ref t1, o2, o3, o4, .int (nI 0), o6, o7, o8, o9, o10, o11, o12, o13, o14, o15, o16, o17, o18])), (t0, .inr (1, [.ref b0, .int (nI 0)])), (t1, .inr (1, [.ref b1, .int (nI 0)]))] s.heap.size) := ⟨_, rfl⟩
  rw [← hQg]
  generalize hAe : va_A [(h0, .inr (0, [.ref t0, .ref t1, o2, o3, o4, .int (nI 0), o6, o7, o8, o9, o10, o11, o12, o13, o14, o15, o16, o17, o18])), (t0, .inr (1, [.ref b0, .int (nI 0)])), (t1, .inr (1, [.ref b1, .int (nI 0)]))] s.heap.size = A at hD hZ hQg
  have hA : ∀ q : Nat, s.heap.size ≤ q → A q := fun q h => by rw [← hAe]; exact Or.inr h
  have hS : va_S A s.heap s.heap [] := va_S.rf
  have hP : va_P (dC, dI) CL [(h0, .inr (0, [.ref t0, .ref t1, o2, o3, o4, .int (nI 0), o6, o7, o8, o9, o10, o11, o12, o13, o14, o15, o16, o17, o18])), (t0, .inr (1, [.ref b0, .int (nI 0)])), (t1, .inr (1, [.ref b1, .int (nI 0)]))] s.heap := hP
  have hl := lv_entry ([.ref h0, .int p1, .ref ob]) (n := 4) (Nat.le_of_ble_eq_true rfl)
  rw [lg_entry_eq]
  generalize (lg_sl ([.ref h0, .int p1, .ref ob]) ++ List.replicate (4 - (lg_sl ([.ref h0, .int p1, .ref ob])).length) Slot.unset).toArray = ls at hl ⊢
  have hl : lv_has ls 4 [(0, .ref h0), (1, .int p1), (2, .ref ob)] := hl
  show W p l e ({ frames := 8, cells := 1, slots := 6, locals := 123 } : Room) s m ([.ref h0, .int p1, .ref ob] : List Value).toArray below meth c s.heap [] 0 0 Qg (F0 m 0 ls [])
  refine lv_aload_n hx hb d_La_change_0 rfl (lv_at hl 2 rfl) ?_
  refine lv_iconst (v := (nI 0)) hx hb d_La_change_1 (by decide +kernel) ?_
  refine lv_aload_n hx hb d_La_change_2 rfl (lv_at hl 0 rfl) ?_
  refine lv_iload_n hx hb d_La_change_3 rfl (lv_at hl 1 rfl) ?_
  refine x_call (E := "java/lang/IllegalStateException") (n := 1) (As := [.int p1]) (rest := [.int (nI 0), .ref ob]) (wc := [(h0, .inr (0, [.ref t0, .ref t1, o2, o3, o4, .int (nI 0), o6, o7, o8, o9, o10, o11, o12, o13, o14, o15, o16, o17, o18])), (t0, .inr (1, [.ref b0, .int (nI 0)])), (t1, .inr (1, [.ref b1, .int (nI 0)]))]) ⟨hx, hb, hml, hown, hts⟩ (c_TB_change l hst dC dI h0 t0 t1 b0 b1 p1 o2 o3 o4 o6 o7 o8 o9 o10 o11 o12 o13 o14 o15 o16 o17 o18 _ ) (kg_V m_460 m_461 m_462 m_163 (kg_code m_459)) (by decide +kernel) rfl rfl ⟨Nat.le_of_ble_eq_true rfl, Nat.le_of_ble_eq_true rfl⟩ [0, 1, 2] [] hP hD hK hS hA hZ hN (by rfl) (by decide) (by rfl) rfl rfl rfl rfl hl.1 rfl (Nat.le_of_ble_eq_true rfl) d_La_change_4 ⟨(Nat.le_of_ble_eq_true rfl), (Nat.le_of_ble_eq_true rfl)⟩ (fun ce q9 H locs hS hce hcv hcl => ?_)
  have hP : va_P (dC, dI) CL [] H := fun k q h => by simp at h
  have hD : va_D A [] := ⟨fun i j p q h => by simp at h, fun k q h => by simp at h⟩
  refine x_catch hown ⟨0, 16, 19, 23⟩ [⟨0, 16, 22, 25⟩, ⟨0, 16, 25, 13⟩] htab (by decide) (by decide) (hts _ m_446) (va_Nw.use rfl hN.1) hce hcv hcl ?_
  refine lv_astore_n (lv' := [(3, .ref q9), (0, .ref h0), (1, .int p1), (2, .ref ob)]) hx hb d_La_change_19 rfl hl (by decide) rfl (fun ls hl => ?_)
  refine lv_iconst (v := (nI 1)) hx hb d_La_change_20 (by decide +kernel) ?_
  have hP9 := hP.sub (ws' := []) [] rfl
  have hD9 := hD.sub (ws' := []) [] (by decide) rfl
  have hK9 := hK.sub (tys' := []) [] rfl
  rw [hQg]
  exact W.iret (v := (nI 1)) hx hb hr (fun t ht hW => ⟨⟨(nI 1), (), rfl, rfl, by rw [ht]; exact hP9, va_K.moved hW.alike hK9, hD9⟩, hS.F ht⟩) hS.2.2 d_La_change_21

-- ThresholdBenchLaw.right
set_option maxHeartbeats 4000000 in
set_option maxRecDepth 100000 in
theorem c_La_right (l : Launch) (hst : l.stackTraces = false) (dC : Nat → ClassId) (dI : Nat → Nat → Nat) (h0 : Nat) (sg : Nat) (s1 : Value) (g2 : Value) (g3 : Value) (g4 : Value) (g5 : Value) (g6 : Value) (p1 : Int32) (o0 : Value) (o1 : Value) (o2 : Value) (o3 : Value) (o4 : Value) (o5 : Value) (o6 : Value) (o7 : Value) (o8 : Value) (o10 : Value) (o11 : Value) (o12 : Value) (o13 : Value) (o14 : Value) (o15 : Value) (o16 : Value) (o17 : Value) (o18 : Value) (ob : Nat) (sz : Nat)  : Met l y_La_right (.codeWith y_La_right method_10_code 4 (some .int) [(0, 16, 19, 23), (0, 16, 22, 25), (0, 16, 25, 13)] :: AW) ({ frames := 8, cells := 1, slots := 6, locals := 122 } : Room) (va_Pc [.ref h0, .int p1, .ref ob] (pw (dC, dI) CL [(h0, .inr (0, [o0, o1, o2, o3, o4, o5, o6, o7, o8, .ref sg, o10, o11, o12, o13, o14, o15, o16, o17, o18])), (sg, .inr (2, [.int (nI 0), s1, g2, g3, g4, g5, g6]))] [] sz)) (va_Qi (fun (r : Int32) (u : Unit) => r = nI 1) (fun (u : Unit) t => qw (dC, dI) CL (va_A [(h0, .inr (0, [o0, o1, o2, o3, o4, o5, o6, o7, o8, .ref sg, o10, o11, o12, o13, o14, o15, o16, o17, o18])), (sg, .inr (2, [.int (nI 0), s1, g2, g3, g4, g5, g6]))] sz) ((fun _ : Unit => []) u) ((fun _ : Unit => []) u) t) (va_A [(h0, .inr (0, [o0, o1, o2, o3, o4, o5, o6, o7, o8, .ref sg, o10, o11, o12, o13, o14, o15, o16, o17, o18])), (sg, .inr (2, [.int (nI 0), s1, g2, g3, g4, g5, g6]))] sz)) 1 6 (va_A [(h0, .inr (0, [o0, o1, o2, o3, o4, o5, o6, o7, o8, .ref sg, o10, o11, o12, o13, o14, o15, o16, o17, o18])), (sg, .inr (2, [.int (nI 0), s1, g2, g3, g4, g5, g6]))] sz) := by
  refine va_MetW (hh := [(0, 16, 19, 23), (0, 16, 22, 25), (0, 16, 25, 13)]) (cc := method_10_code) (maxL := 4) (ret := (some .int)) (by decide) rfl ?_
  intro p e s m args below meth c s₁ B hml hv
  obtain ⟨rfl, hsz, hP, hK, hD0, hZ, hN⟩ := hv
  have hx := B.exec
  have hb := B.bytes
  have hr := B.returns
  have hts := kw (atoms_spec (ws := .codeWith y_La_right method_10_code 4 (some .int) [(0, 16, 19, 23), (0, 16, 22, 25), (0, 16, 25, 13)] :: AW) B.pre)
  have hown : s.vm.findClass R_La = some m.cls := findClass_of_methodNamed B.named
  have hlocks := B.notSynchronized
  subst hsz
  have hD := hD0.self (sz := s.heap.size)
  have htab : c.exceptionTable.toList = [⟨0, 16, 19, 23⟩, ⟨0, 16, 22, 25⟩, ⟨0, 16, 25, 13⟩] := x_table B (atoms_spec (ws := .codeWith y_La_right method_10_code 4 (some .int) [(0, 16, 19, 23), (0, 16, 22, 25), (0, 16, 25, 13)] :: AW) B.pre _ List.mem_cons_self)
  obtain ⟨Qg, hQg⟩ : ∃ q, q = MQ below (va_Qi (fun (r : Int32) (u : Unit) => r = nI 1) (fun (u : Unit) t => qw (dC, dI) CL (va_A [(h0, .inr (0, [o0, o1, o2, o3, o4, o5, o6, o7, o8, .ref sg, o10, o11, o12, o13, o14, o15, o16, o17, o18])), (sg, .inr (2, [.int (nI 0), s1, g2, g3, g4, g5, g6]))] s.heap.size) ((fun _ : Unit => []) u) ((fun _ : Unit => []) u) t) (va_A [(h0, .inr (0, [o0, o1, o2, o3, o4, o5, o6, o7, o8, .ref sg, o10, o11, o12, o13, o14, o15, o16, o17, o18])), (sg, .inr (2, [.int (nI 0), s1, g2, g3, g4, g5, g6]))] s.heap.size)) ([.ref h0, .int p1, .ref ob] : List Value).toArray s 1 6 (va_A [(h0, .inr (0, [o0, o1, o2, o3, o4, o5, o6, o7, o8, .ref sg, o10, o11, o12, o13, o14, o15, o16, o17, o18])), (sg, .inr (2, [.int (nI 0), s1, g2, g3, g4, g5, g6]))] s.heap.size) := ⟨_, rfl⟩
  rw [← hQg]
  generalize hAe : va_A [(h0, .inr (0, [o0, o1, o2, o3, o4, o5, o6, o7, o8, .ref sg, o10, o11, o12, o13, o14, o15, o16, o17, o18])), (sg, .inr (2, [.int (nI 0), s1, g2, g3, g4, g5, g6]))] s.heap.size = A at hD hZ hQg
  have hA : ∀ q : Nat, s.heap.size ≤ q → A q := fun q h => by rw [← hAe]; exact Or.inr h
  have hS : va_S A s.heap s.heap [] := va_S.rf
  have hP : va_P (dC, dI) CL [(h0, .inr (0, [o0, o1, o2, o3, o4, o5, o6, o7, o8, .ref sg, o10, o11, o12, o13, o14, o15, o16, o17, o18])), (sg, .inr (2, [.int (nI 0), s1, g2, g3, g4, g5, g6]))] s.heap := hP
  have hl := lv_entry ([.ref h0, .int p1, .ref ob]) (n := 4) (Nat.le_of_ble_eq_true rfl)
  rw [lg_entry_eq]
  generalize (lg_sl ([.ref h0, .int p1, .ref ob]) ++ List.replicate (4 - (lg_sl ([.ref h0, .int p1, .ref ob])).length) Slot.unset).toArray = ls at hl ⊢
  have hl : lv_has ls 4 [(0, .ref h0), (1, .int p1), (2, .ref ob)] := hl
  show W p l e ({ frames := 8, cells := 1, slots := 6, locals := 122 } : Room) s m ([.ref h0, .int p1, .ref ob] : List Value).toArray below meth c s.heap [] 0 0 Qg (F0 m 0 ls [])
  refine lv_aload_n hx hb d_La_right_0 rfl (lv_at hl 2 rfl) ?_
  refine lv_iconst (v := (nI 0)) hx hb d_La_right_1 (by decide +kernel) ?_
  refine lv_aload_n hx hb d_La_right_2 rfl (lv_at hl 0 rfl) ?_
  refine lv_iload_n hx hb d_La_right_3 rfl (lv_at hl 1 rfl) ?_
  refine x_call (E := "java/lang/IllegalStateException") (n := 1) (As := [.int p1]) (rest := [.int (nI 0), .ref ob]) (wc := [(h0, .inr (0, [o0, o1, o2, o3, o4, o5, o6, o7, o8, .ref sg, o10, o11, o12, o13, o14, o15, o16, o17, o18])), (sg, .inr (2, [.int (nI 0), s1, g2, g3, g4, g5, g6]))]) ⟨hx, hb, hml, hown, hts⟩ (c_TB_right l hst dC dI h0 sg s1 g2 g3 g4 g5 g6 p1 o0 o1 o2 o3 o4 o5 o6 o7 o8 o10 o11 o12 o13 o14 o15 o16 o17 o18 _ ) (kg_V m_464 m_465 m_466 m_163 (kg_code m_463)) (by decide +kernel) rfl rfl ⟨Nat.le_of_ble_eq_true rfl, Nat.le_of_ble_eq_true rfl⟩ [0, 1] [] hP hD hK hS hA hZ hN (by rfl) (by decide) (by rfl) rfl rfl rfl rfl hl.1 rfl (Nat.le_of_ble_eq_true rfl) d_La_right_4 ⟨(Nat.le_of_ble_eq_true rfl), (Nat.le_of_ble_eq_true rfl)⟩ (fun ce q9 H locs hS hce hcv hcl => ?_)
  have hP : va_P (dC, dI) CL [] H := fun k q h => by simp at h
  have hD : va_D A [] := ⟨fun i j p q h => by simp at h, fun k q h => by simp at h⟩
  refine x_catch hown ⟨0, 16, 19, 23⟩ [⟨0, 16, 22, 25⟩, ⟨0, 16, 25, 13⟩] htab (by decide) (by decide) (hts _ m_446) (va_Nw.use rfl hN.1) hce hcv hcl ?_
  refine lv_astore_n (lv' := [(3, .ref q9), (0, .ref h0), (1, .int p1), (2, .ref ob)]) hx hb d_La_right_19 rfl hl (by decide) rfl (fun ls hl => ?_)
  refine lv_iconst (v := (nI 1)) hx hb d_La_right_20 (by decide +kernel) ?_
  have hP9 := hP.sub (ws' := []) [] rfl
  have hD9 := hD.sub (ws' := []) [] (by decide) rfl
  have hK9 := hK.sub (tys' := []) [] rfl
  rw [hQg]
  exact W.iret (v := (nI 1)) hx hb hr (fun t ht hW => ⟨⟨(nI 1), (), rfl, rfl, by rw [ht]; exact hP9, va_K.moved hW.alike hK9, hD9⟩, hS.F ht⟩) hS.2.2 d_La_right_21

-- ThresholdBenchLaw.gather
set_option maxHeartbeats 4000000 in
set_option maxRecDepth 100000 in
theorem c_La_gather (l : Launch) (hst : l.stackTraces = false) (dC : Nat → ClassId) (dI : Nat → Nat → Nat) (h0 : Nat) (sg : Nat) (s1 : Value) (g2 : Value) (g3 : Value) (g4 : Value) (g5 : Value) (g6 : Value) (o0 : Value) (o1 : Value) (o2 : Value) (o3 : Value) (o4 : Value) (o5 : Value) (o6 : Value) (o7 : Value) (o8 : Value) (o10 : Value) (o11 : Value) (o12 : Value) (o13 : Value) (o14 : Value) (o15 : Value) (o16 : Value) (o17 : Value) (o18 : Value) (ob : Nat) (sz : Nat)  : Met l y_La_gather (.codeWith y_La_gather method_11_code 3 (some .int) [(0, 8, 11, 23)] :: AW) ({ frames := 8, cells := 1, slots := 6, locals := 123 } : Room) (va_Pc [.ref h0, .ref ob] (pw (dC, dI) CL [(h0, .inr (0, [o0, o1, o2, o3, o4, o5, o6, o7, o8, .ref sg, o10, o11, o12, o13, o14, o15, o16, o17, o18])), (sg, .inr (2, [.int (nI 0), s1, g2, g3, g4, g5, g6]))] [] sz)) (va_Qi (fun (r : Int32) (u : Unit) => r = nI 1) (fun (u : Unit) t => qw (dC, dI) CL (va_A [(h0, .inr (0, [o0, o1, o2, o3, o4, o5, o6, o7, o8, .ref sg, o10, o11, o12, o13, o14, o15, o16, o17, o18])), (sg, .inr (2, [.int (nI 0), s1, g2, g3, g4, g5, g6]))] sz) ((fun _ : Unit => []) u) ((fun _ : Unit => []) u) t) (va_A [(h0, .inr (0, [o0, o1, o2, o3, o4, o5, o6, o7, o8, .ref sg, o10, o11, o12, o13, o14, o15, o16, o17, o18])), (sg, .inr (2, [.int (nI 0), s1, g2, g3, g4, g5, g6]))] sz)) 1 6 (va_A [(h0, .inr (0, [o0, o1, o2, o3, o4, o5, o6, o7, o8, .ref sg, o10, o11, o12, o13, o14, o15, o16, o17, o18])), (sg, .inr (2, [.int (nI 0), s1, g2, g3, g4, g5, g6]))] sz) := by
  refine va_MetW (hh := [(0, 8, 11, 23)]) (cc := method_11_code) (maxL := 3) (ret := (some .int)) (by decide) rfl ?_
  intro p e s m args below meth c s₁ B hml hv
  obtain ⟨rfl, hsz, hP, hK, hD0, hZ, hN⟩ := hv
  have hx := B.exec
  have hb := B.bytes
  have hr := B.returns
  have hts := kw (atoms_spec (ws := .codeWith y_La_gather method_11_code 3 (some .int) [(0, 8, 11, 23)] :: AW) B.pre)
  have hown : s.vm.findClass R_La = some m.cls := findClass_of_methodNamed B.named
  have hlocks := B.notSynchronized
  subst hsz
  have hD := hD0.self (sz := s.heap.size)
  have htab : c.exceptionTable.toList = [⟨0, 8, 11, 23⟩] := x_table B (atoms_spec (ws := .codeWith y_La_gather method_11_code 3 (some .int) [(0, 8, 11, 23)] :: AW) B.pre _ List.mem_cons_self)
  obtain ⟨Qg, hQg⟩ : ∃ q, q = MQ below (va_Qi (fun (r : Int32) (u : Unit) => r = nI 1) (fun (u : Unit) t => qw (dC, dI) CL (va_A [(h0, .inr (0, [o0, o1, o2, o3, o4, o5, o6, o7, o8, .ref sg, o10, o11, o12, o13, o14, o15, o16, o17, o18])), (sg, .inr (2, [.int (nI 0), s1, g2, g3, g4, g5, g6]))] s.heap.size) ((fun _ : Unit => []) u) ((fun _ : Unit => []) u) t) (va_A [(h0, .inr (0, [o0, o1, o2, o3, o4, o5, o6, o7, o8, .ref sg, o10, o11, o12, o13, o14, o15, o16, o17, o18])), (sg, .inr (2, [.int (nI 0), s1, g2, g3, g4, g5, g6]))] s.heap.size)) ([.ref h0, .ref ob] : List Value).toArray s 1 6 (va_A [(h0, .inr (0, [o0, o1, o2, o3, o4, o5, o6, o7, o8, .ref sg, o10, o11, o12, o13, o14, o15, o16, o17, o18])), (sg, .inr (2, [.int (nI 0), s1, g2, g3, g4, g5, g6]))] s.heap.size) := ⟨_, rfl⟩
  rw [← hQg]
  generalize hAe : va_A [(h0, .inr (0, [o0, o1, o2, o3, o4, o5, o6, o7, o8, .ref sg, o10, o11, o12, o13, o14, o15, o16, o17, o18])), (sg, .inr (2, [.int (nI 0), s1, g2, g3, g4, g5, g6]))] s.heap.size = A at hD hZ hQg
  have hA : ∀ q : Nat, s.heap.size ≤ q → A q := fun q h => by rw [← hAe]; exact Or.inr h
  have hS : va_S A s.heap s.heap [] := va_S.rf
  have hP : va_P (dC, dI) CL [(h0, .inr (0, [o0, o1, o2, o3, o4, o5, o6, o7, o8, .ref sg, o10, o11, o12, o13, o14, o15, o16, o17, o18])), (sg, .inr (2, [.int (nI 0), s1, g2, g3, g4, g5, g6]))] s.heap := hP
  have hl := lv_entry ([.ref h0, .ref ob]) (n := 3) (Nat.le_of_ble_eq_true rfl)
  rw [lg_entry_eq]
  generalize (lg_sl ([.ref h0, .ref ob]) ++ List.replicate (3 - (lg_sl ([.ref h0, .ref ob])).length) Slot.unset).toArray = ls at hl ⊢
  have hl : lv_has ls 3 [(0, .ref h0), (1, .ref ob)] := hl
  show W p l e ({ frames := 8, cells := 1, slots := 6, locals := 123 } : Room) s m ([.ref h0, .ref ob] : List Value).toArray below meth c s.heap [] 0 0 Qg (F0 m 0 ls [])
  refine lv_aload_n hx hb d_La_gather_0 rfl (lv_at hl 1 rfl) ?_
  refine lv_iconst (v := (nI 0)) hx hb d_La_gather_1 (by decide +kernel) ?_
  refine lv_aload_n hx hb d_La_gather_2 rfl (lv_at hl 0 rfl) ?_
  refine x_call (E := "java/lang/IllegalStateException") (n := 0) (As := []) (rest := [.int (nI 0), .ref ob]) (wc := [(h0, .inr (0, [o0, o1, o2, o3, o4, o5, o6, o7, o8, .ref sg, o10, o11, o12, o13, o14, o15, o16, o17, o18])), (sg, .inr (2, [.int (nI 0), s1, g2, g3, g4, g5, g6]))]) ⟨hx, hb, hml, hown, hts⟩ (c_TB_gather l hst dC dI h0 sg s1 g2 g3 g4 g5 g6 o0 o1 o2 o3 o4 o5 o6 o7 o8 o10 o11 o12 o13 o14 o15 o16 o17 o18 _ ) (kg_V m_468 m_469 m_470 m_163 (kg_code m_467)) (by decide +kernel) rfl rfl ⟨Nat.le_of_ble_eq_true rfl, Nat.le_of_ble_eq_true rfl⟩ [0, 1] [] hP hD hK hS hA hZ hN (by rfl) (by decide) (by rfl) rfl rfl rfl rfl hl.1 rfl (Nat.le_of_ble_eq_true rfl) d_La_gather_3 ⟨(Nat.le_of_ble_eq_true rfl), (Nat.le_of_ble_eq_true rfl)⟩ (fun ce q9 H locs hS hce hcv hcl => ?_)
  have hP : va_P (dC, dI) CL [] H := fun k q h => by simp at h
  have hD : va_D A [] := ⟨fun i j p q h => by simp at h, fun k q h => by simp at h⟩
  refine x_catch hown ⟨0, 8, 11, 23⟩ [] htab (by decide) (by decide) (hts _ m_446) (va_Nw.use rfl hN.1) hce hcv hcl ?_
  refine lv_astore_n (lv' := [(2, .ref q9), (0, .ref h0), (1, .ref ob)]) hx hb d_La_gather_11 rfl hl (by decide) rfl (fun ls hl => ?_)
  refine lv_iconst (v := (nI 1)) hx hb d_La_gather_12 (by decide +kernel) ?_
  have hP9 := hP.sub (ws' := []) [] rfl
  have hD9 := hD.sub (ws' := []) [] (by decide) rfl
  have hK9 := hK.sub (tys' := []) [] rfl
  rw [hQg]
  exact W.iret (v := (nI 1)) hx hb hr (fun t ht hW => ⟨⟨(nI 1), (), rfl, rfl, by rw [ht]; exact hP9, va_K.moved hW.alike hK9, hD9⟩, hS.F ht⟩) hS.2.2 d_La_gather_13

-- ThresholdBenchLaw.holds
set_option maxHeartbeats 4000000 in
set_option maxRecDepth 100000 in
theorem c_La_holds (l : Launch) (hst : l.stackTraces = false) (dC : Nat → ClassId) (dI : Nat → Nat → Nat) (h0 : Nat) (t0 : Nat) (t1 : Nat) (b0 : Nat) (b1 : Nat) (o2 : Value) (o3 : Value) (o4 : Value) (o6 : Value) (o7 : Value) (o8 : Value) (o9 : Value) (o10 : Value) (o11 : Value) (o12 : Value) (o13 : Value) (o14 : Value) (o15 : Value) (o16 : Value) (o17 : Value) (o18 : Value) (ob : Nat) (sz : Nat)  : Met l y_La_holds (.codeWith y_La_holds method_12_code 3 (some .int) [(0, 15, 18, 23)] :: AW) ({ frames := 8, cells := 1, slots := 6, locals := 121 } : Room) (va_Pc [.ref h0, .ref ob] (pw (dC, dI) CL [(h0, .inr (0, [.ref t0, .ref t1, o2, o3, o4, .int (nI 0), o6, o7, o8, o9, o10, o11, o12, o13, o14, o15, o16, o17, o18])), (t0, .inr (1, [.ref b0, .int (nI 0)])), (t1, .inr (1, [.ref b1, .int (nI 0)]))] [] sz)) (va_Qi (fun (r : Int32) (u : Unit) => r = nI 1) (fun (u : Unit) t => qw (dC, dI) CL (va_A [(h0, .inr (0, [.ref t0, .ref t1, o2, o3, o4, .int (nI 0), o6, o7, o8, o9, o10, o11, o12, o13, o14, o15, o16, o17, o18])), (t0, .inr (1, [.ref b0, .int (nI 0)])), (t1, .inr (1, [.ref b1, .int (nI 0)]))] sz) ((fun _ : Unit => []) u) ((fun _ : Unit => []) u) t) (va_A [(h0, .inr (0, [.ref t0, .ref t1, o2, o3, o4, .int (nI 0), o6, o7, o8, o9, o10, o11, o12, o13, o14, o15, o16, o17, o18])), (t0, .inr (1, [.ref b0, .int (nI 0)])), (t1, .inr (1, [.ref b1, .int (nI 0)]))] sz)) 1 6 (va_A [(h0, .inr (0, [.ref t0, .ref t1, o2, o3, o4, .int (nI 0), o6, o7, o8, o9, o10, o11, o12, o13, o14, o15, o16, o17, o18])), (t0, .inr (1, [.ref b0, .int (nI 0)])), (t1, .inr (1, [.ref b1, .int (nI 0)]))] sz) := by
  refine va_MetW (hh := [(0, 15, 18, 23)]) (cc := method_12_code) (maxL := 3) (ret := (some .int)) (by decide) rfl ?_
  intro p e s m args below meth c s₁ B hml hv
  obtain ⟨rfl, hsz, hP, hK, hD0, hZ, hN⟩ := hv
  have hx := B.exec
  have hb := B.bytes
  have hr := B.returns
  have hts := kw (atoms_spec (ws := .codeWith y_La_holds method_12_code 3 (some .int) [(0, 15, 18, 23)] :: AW) B.pre)
  have hown : s.vm.findClass R_La = some m.cls := findClass_of_methodNamed B.named
  have hlocks := B.notSynchronized
  subst hsz
  have hD := hD0.self (sz := s.heap.size)
  have htab : c.exceptionTable.toList = [⟨0, 15, 18, 23⟩] := x_table B (atoms_spec (ws := .codeWith y_La_holds method_12_code 3 (some .int) [(0, 15, 18, 23)] :: AW) B.pre _ List.mem_cons_self)
  obtain ⟨Qg, hQg⟩ : ∃ q, q = MQ below (va_Qi (fun (r : Int32) (u : Unit) => r = nI 1) (fun (u : Unit) t => qw (dC, dI) CL (va_A [(h0, .inr (0, [.ref t0, .ref t1, o2, o3, o4, .int (nI 0), o6, o7, o8, o9, o10, o11, o12, o13, o14, o15, o16, o17, o18])), (t0, .inr (1, [.ref b0, .int (nI 0)])), (t1, .inr (1, [.ref b1, .int (nI 0)]))] s.heap.size) ((fun _ : Unit => []) u) ((fun _ : Unit => []) u) t) (va_A [(h0, .inr (0, [.ref t0, .ref t1, o2, o3, o4, .int (nI 0), o6, o7, o8, o9, o10, o11, o12, o13, o14, o15, o16, o17, o18])), (t0, .inr (1, [.ref b0, .int (nI 0)])), (t1, .inr (1, [.ref b1, .int (nI 0)]))] s.heap.size)) ([.ref h0, .ref ob] : List Value).toArray s 1 6 (va_A [(h0, .inr (0, [.ref t0, .ref t1, o2, o3, o4, .int (nI 0), o6, o7, o8, o9, o10, o11, o12, o13, o14, o15, o16, o17, o18])), (t0, .inr (1, [.ref b0, .int (nI 0)])), (t1, .inr (1, [.ref b1, .int (nI 0)]))] s.heap.size) := ⟨_, rfl⟩
  rw [← hQg]
  generalize hAe : va_A [(h0, .inr (0, [.ref t0, .ref t1, o2, o3, o4, .int (nI 0), o6, o7, o8, o9, o10, o11, o12, o13, o14, o15, o16, o17, o18])), (t0, .inr (1, [.ref b0, .int (nI 0)])), (t1, .inr (1, [.ref b1, .int (nI 0)]))] s.heap.size = A at hD hZ hQg
  have hA : ∀ q : Nat, s.heap.size ≤ q → A q := fun q h => by rw [← hAe]; exact Or.inr h
  have hS : va_S A s.heap s.heap [] := va_S.rf
  have hP : va_P (dC, dI) CL [(h0, .inr (0, [.ref t0, .ref t1, o2, o3, o4, .int (nI 0), o6, o7, o8, o9, o10, o11, o12, o13, o14, o15, o16, o17, o18])), (t0, .inr (1, [.ref b0, .int (nI 0)])), (t1, .inr (1, [.ref b1, .int (nI 0)]))] s.heap := hP
  have hl := lv_entry ([.ref h0, .ref ob]) (n := 3) (Nat.le_of_ble_eq_true rfl)
  rw [lg_entry_eq]
  generalize (lg_sl ([.ref h0, .ref ob]) ++ List.replicate (3 - (lg_sl ([.ref h0, .ref ob])).length) Slot.unset).toArray = ls at hl ⊢
  have hl : lv_has ls 3 [(0, .ref h0), (1, .ref ob)] := hl
  show W p l e ({ frames := 8, cells := 1, slots := 6, locals := 121 } : Room) s m ([.ref h0, .ref ob] : List Value).toArray below meth c s.heap [] 0 0 Qg (F0 m 0 ls [])
  refine lv_aload_n hx hb d_La_holds_0 rfl (lv_at hl 1 rfl) ?_
  refine lv_iconst (v := (nI 0)) hx hb d_La_holds_1 (by decide +kernel) ?_
  refine lv_aload_n hx hb d_La_holds_2 rfl (lv_at hl 0 rfl) ?_
  refine x_call (E := "java/lang/IllegalStateException") (n := 0) (As := []) (rest := [.int (nI 0), .ref ob]) (wc := [(h0, .inr (0, [.ref t0, .ref t1, o2, o3, o4, .int (nI 0), o6, o7, o8, o9, o10, o11, o12, o13, o14, o15, o16, o17, o18])), (t0, .inr (1, [.ref b0, .int (nI 0)])), (t1, .inr (1, [.ref b1, .int (nI 0)]))]) ⟨hx, hb, hml, hown, hts⟩ (c_TB_holds l hst dC dI h0 t0 t1 b0 b1 o2 o3 o4 o6 o7 o8 o9 o10 o11 o12 o13 o14 o15 o16 o17 o18 _ ) (kg_V m_472 m_473 m_474 m_163 (kg_code m_471)) (by decide +kernel) rfl rfl ⟨Nat.le_of_ble_eq_true rfl, Nat.le_of_ble_eq_true rfl⟩ [0, 1, 2] [] hP hD hK hS hA hZ hN (by rfl) (by decide) (by rfl) rfl rfl rfl rfl hl.1 rfl (Nat.le_of_ble_eq_true rfl) d_La_holds_3 ⟨(Nat.le_of_ble_eq_true rfl), (Nat.le_of_ble_eq_true rfl)⟩ (fun ce q9 H locs hS hce hcv hcl => ?_)
  have hP : va_P (dC, dI) CL [] H := fun k q h => by simp at h
  have hD : va_D A [] := ⟨fun i j p q h => by simp at h, fun k q h => by simp at h⟩
  refine x_catch hown ⟨0, 15, 18, 23⟩ [] htab (by decide) (by decide) (hts _ m_446) (va_Nw.use rfl hN.1) hce hcv hcl ?_
  refine lv_astore_n (lv' := [(2, .ref q9), (0, .ref h0), (1, .ref ob)]) hx hb d_La_holds_18 rfl hl (by decide) rfl (fun ls hl => ?_)
  refine lv_iconst (v := (nI 1)) hx hb d_La_holds_19 (by decide +kernel) ?_
  have hP9 := hP.sub (ws' := []) [] rfl
  have hD9 := hD.sub (ws' := []) [] (by decide) rfl
  have hK9 := hK.sub (tys' := []) [] rfl
  rw [hQg]
  exact W.iret (v := (nI 1)) hx hb hr (fun t ht hW => ⟨⟨(nI 1), (), rfl, rfl, by rw [ht]; exact hP9, va_K.moved hW.alike hK9, hD9⟩, hS.F ht⟩) hS.2.2 d_La_holds_20

-- ThresholdBenchLaw.message
set_option maxHeartbeats 4000000 in
set_option maxRecDepth 100000 in
theorem c_La_message (l : Launch) (dC : Nat → ClassId) (dI : Nat → Nat → Nat) (h0 : Nat) (t0 : Nat) (t1 : Nat) (t2 : Nat) (b0 : Nat) (b1 : Nat) (b2 : Nat) (sg : Nat) (g2 : Value) (g3 : Value) (g4 : Value) (g5 : Value) (g6 : Value) (o3 : Value) (o4 : Value) (o5 : Value) (o6 : Value) (o7 : Value) (o8 : Value) (o10 : Value) (o11 : Value) (o12 : Value) (o13 : Value) (o14 : Value) (o15 : Value) (o16 : Value) (o17 : Value) (o18 : Value) (ob : Nat) (ko : ClassId) (F : Nat → Nat) (sz : Nat)  : Met l y_La_message (.codeWith y_La_message method_3_code 3 (some .int) [(0, 8, 11, 13)] :: AW) ({ frames := 3, cells := 0, slots := 0, locals := 65 } : Room) (va_Pc [.ref h0, .ref ob] (pw (dC, dI) CL [(h0, .inr (0, [.ref t0, .ref t1, .ref t2, o3, o4, o5, o6, o7, o8, .ref sg, o10, o11, o12, o13, o14, o15, o16, o17, o18])), (t0, .inr (1, [.ref b0, .int (nI 0)])), (t1, .inr (1, [.ref b1, .int (nI 0)])), (t2, .inr (1, [.ref b2, .int (nI 0)])), (sg, .inr (2, [.int (nI 0), .int (nI 0), g2, g3, g4, g5, g6])), (ob, .inl (ko, 1, .inr (.inl (fun j9 => lN (F j9)))))] [(ko, .long)] sz)) (va_Qi (fun (r : Int32) (u : Unit) => r = nI 0) (fun (u : Unit) t => qw (dC, dI) CL (va_A [(h0, .inr (0, [.ref t0, .ref t1, .ref t2, o3, o4, o5, o6, o7, o8, .ref sg, o10, o11, o12, o13, o14, o15, o16, o17, o18])), (t0, .inr (1, [.ref b0, .int (nI 0)])), (t1, .inr (1, [.ref b1, .int (nI 0)])), (t2, .inr (1, [.ref b2, .int (nI 0)])), (sg, .inr (2, [.int (nI 0), .int (nI 0), g2, g3, g4, g5, g6])), (ob, .inl (ko, 1, .inr (.inl (fun j9 => lN (F j9)))))] sz) ((fun _ : Unit => [(ob, .inl (ko, 1, .inr (.inl (fun j9 => lN ((upN F 0 0) j9)))))]) u) ((fun _ : Unit => []) u) t) (va_A [(h0, .inr (0, [.ref t0, .ref t1, .ref t2, o3, o4, o5, o6, o7, o8, .ref sg, o10, o11, o12, o13, o14, o15, o16, o17, o18])), (t0, .inr (1, [.ref b0, .int (nI 0)])), (t1, .inr (1, [.ref b1, .int (nI 0)])), (t2, .inr (1, [.ref b2, .int (nI 0)])), (sg, .inr (2, [.int (nI 0), .int (nI 0), g2, g3, g4, g5, g6])), (ob, .inl (ko, 1, .inr (.inl (fun j9 => lN (F j9)))))] sz)) 0 0 (va_A [(h0, .inr (0, [.ref t0, .ref t1, .ref t2, o3, o4, o5, o6, o7, o8, .ref sg, o10, o11, o12, o13, o14, o15, o16, o17, o18])), (t0, .inr (1, [.ref b0, .int (nI 0)])), (t1, .inr (1, [.ref b1, .int (nI 0)])), (t2, .inr (1, [.ref b2, .int (nI 0)])), (sg, .inr (2, [.int (nI 0), .int (nI 0), g2, g3, g4, g5, g6])), (ob, .inl (ko, 1, .inr (.inl (fun j9 => lN (F j9)))))] sz) := by
  refine va_MetW (hh := [(0, 8, 11, 13)]) (cc := method_3_code) (maxL := 3) (ret := (some .int)) (by decide) rfl ?_
  intro p e s m args below meth c s₁ B hml hv
  obtain ⟨rfl, hsz, hP, hK, hD0, hZ, hN⟩ := hv
  have hx := B.exec
  have hb := B.bytes
  have hr := B.returns
  have hts := kw (atoms_spec (ws := .codeWith y_La_message method_3_code 3 (some .int) [(0, 8, 11, 13)] :: AW) B.pre)
  have hown : s.vm.findClass R_La = some m.cls := findClass_of_methodNamed B.named
  have hlocks := B.notSynchronized
  subst hsz
  have hD := hD0.self (sz := s.heap.size)
  have htab : c.exceptionTable.toList = [⟨0, 8, 11, 13⟩] := x_table B (atoms_spec (ws := .codeWith y_La_message method_3_code 3 (some .int) [(0, 8, 11, 13)] :: AW) B.pre _ List.mem_cons_self)
  obtain ⟨Qg, hQg⟩ : ∃ q, q = MQ below (va_Qi (fun (r : Int32) (u : Unit) => r = nI 0) (fun (u : Unit) t => qw (dC, dI) CL (va_A [(h0, .inr (0, [.ref t0, .ref t1, .ref t2, o3, o4, o5, o6, o7, o8, .ref sg, o10, o11, o12, o13, o14, o15, o16, o17, o18])), (t0, .inr (1, [.ref b0, .int (nI 0)])), (t1, .inr (1, [.ref b1, .int (nI 0)])), (t2, .inr (1, [.ref b2, .int (nI 0)])), (sg, .inr (2, [.int (nI 0), .int (nI 0), g2, g3, g4, g5, g6])), (ob, .inl (ko, 1, .inr (.inl (fun j9 => lN (F j9)))))] s.heap.size) ((fun _ : Unit => [(ob, .inl (ko, 1, .inr (.inl (fun j9 => lN ((upN F 0 0) j9)))))]) u) ((fun _ : Unit => []) u) t) (va_A [(h0, .inr (0, [.ref t0, .ref t1, .ref t2, o3, o4, o5, o6, o7, o8, .ref sg, o10, o11, o12, o13, o14, o15, o16, o17, o18])), (t0, .inr (1, [.ref b0, .int (nI 0)])), (t1, .inr (1, [.ref b1, .int (nI 0)])), (t2, .inr (1, [.ref b2, .int (nI 0)])), (sg, .inr (2, [.int (nI 0), .int (nI 0), g2, g3, g4, g5, g6])), (ob, .inl (ko, 1, .inr (.inl (fun j9 => lN (F j9)))))] s.heap.size)) ([.ref h0, .ref ob] : List Value).toArray s 0 0 (va_A [(h0, .inr (0, [.ref t0, .ref t1, .ref t2, o3, o4, o5, o6, o7, o8, .ref sg, o10, o11, o12, o13, o14, o15, o16, o17, o18])), (t0, .inr (1, [.ref b0, .int (nI 0)])), (t1, .inr (1, [.ref b1, .int (nI 0)])), (t2, .inr (1, [.ref b2, .int (nI 0)])), (sg, .inr (2, [.int (nI 0), .int (nI 0), g2, g3, g4, g5, g6])), (ob, .inl (ko, 1, .inr (.inl (fun j9 => lN (F j9)))))] s.heap.size) := ⟨_, rfl⟩
  rw [← hQg]
  generalize hAe : va_A [(h0, .inr (0, [.ref t0, .ref t1, .ref t2, o3, o4, o5, o6, o7, o8, .ref sg, o10, o11, o12, o13, o14, o15, o16, o17, o18])), (t0, .inr (1, [.ref b0, .int (nI 0)])), (t1, .inr (1, [.ref b1, .int (nI 0)])), (t2, .inr (1, [.ref b2, .int (nI 0)])), (sg, .inr (2, [.int (nI 0), .int (nI 0), g2, g3, g4, g5, g6])), (ob, .inl (ko, 1, .inr (.inl (fun j9 => lN (F j9)))))] s.heap.size = A at hD hZ hQg
  have hA : ∀ q : Nat, s.heap.size ≤ q → A q := fun q h => by rw [← hAe]; exact Or.inr h
  have hS : va_S A s.heap s.heap [] := va_S.rf
  have hP : va_P (dC, dI) CL [(h0, .inr (0, [.ref t0, .ref t1, .ref t2, o3, o4, o5, o6, o7, o8, .ref sg, o10, o11, o12, o13, o14, o15, o16, o17, o18])), (t0, .inr (1, [.ref b0, .int (nI 0)])), (t1, .inr (1, [.ref b1, .int (nI 0)])), (t2, .inr (1, [.ref b2, .int (nI 0)])), (sg, .inr (2, [.int (nI 0), .int (nI 0), g2, g3, g4, g5, g6])), (ob, .inl (ko, 1, .inr (.inl (fun j9 => lN (F j9)))))] s.heap := hP
  have hl := lv_entry ([.ref h0, .ref ob]) (n := 3) (Nat.le_of_ble_eq_true rfl)
  rw [lg_entry_eq]
  generalize (lg_sl ([.ref h0, .ref ob]) ++ List.replicate (3 - (lg_sl ([.ref h0, .ref ob])).length) Slot.unset).toArray = ls at hl ⊢
  have hl : lv_has ls 3 [(0, .ref h0), (1, .ref ob)] := hl
  show W p l e ({ frames := 3, cells := 0, slots := 0, locals := 65 } : Room) s m ([.ref h0, .ref ob] : List Value).toArray below meth c s.heap [] 0 0 Qg (F0 m 0 ls [])
  refine lv_aload_n hx hb d_La_message_0 rfl (lv_at hl 1 rfl) ?_
  refine lv_iconst (v := (nI 0)) hx hb d_La_message_1 (by decide +kernel) ?_
  refine lv_aload_n hx hb d_La_message_2 rfl (lv_at hl 0 rfl) ?_
  refine k_fini (wr := [(ob, .inl (ko, 1, .inr (.inl (fun j9 => lN (F j9)))))]) [0, 1, 2, 3, 4] [5] (k_runV (n := 0) (As := []) (rest := [.int (nI 0), .ref ob]) (wc := [(h0, .inr (0, [.ref t0, .ref t1, .ref t2, o3, o4, o5, o6, o7, o8, .ref sg, o10, o11, o12, o13, o14, o15, o16, o17, o18])), (t0, .inr (1, [.ref b0, .int (nI 0)])), (t1, .inr (1, [.ref b1, .int (nI 0)])), (t2, .inr (1, [.ref b2, .int (nI 0)])), (sg, .inr (2, [.int (nI 0), .int (nI 0), g2, g3, g4, g5, g6]))]) ⟨hx, hb, hml, hown, hts⟩ (c_TB_message l dC dI h0 t0 t1 t2 b0 b1 b2 sg g2 g3 g4 g5 g6 o3 o4 o5 o6 o7 o8 o10 o11 o12 o13 o14 o15 o16 o17 o18 _ ) (kg_V m_476 m_477 m_478 m_163 (kg_code m_475)) (by decide +kernel) rfl rfl ⟨Nat.le_of_ble_eq_true rfl, Nat.le_of_ble_eq_true rfl⟩ [0, 1, 2, 3, 4] [] hP hD hK hS hA hZ hN (by rfl) (by decide) (by rfl) rfl rfl rfl rfl hl.1 rfl (Nat.le_of_ble_eq_true rfl) d_La_message_3 ⟨(Nat.le_of_ble_eq_true rfl), (Nat.le_of_ble_eq_true rfl)⟩) hP hD hK hS hA (by rfl) (by rfl) (by decide) (by decide) (fun r_1 u9 H locs hw_2 hP hD hK hS => ?_)
  try dsimp only at hw_2
  have hP : va_P (dC, dI) CL [(ob, .inl (ko, 1, .inr (.inl (fun j9 => lN (F j9)))))] H := hP
  have hD : va_D A [(ob, .inl (ko, 1, .inr (.inl (fun j9 => lN (F j9)))))] := hD
  have hK : va_K (dC, dI) CL [(ko, .long)] s := hK
  subst hw_2
  refine lv_i2l (v := lN 0) hx hb d_La_message_6 (nI_l (by omega)) ?_
  refine kv_lastN hx hb hK hP hD hS 0 0 rfl rfl (by omega) (by omega) d_La_message_7 (fun H locs hP hD hS => ?_)
  have hP : va_P (dC, dI) CL [(ob, .inl (ko, 1, .inr (.inl (fun j9 => lN ((upN F 0 0) j9)))))] H := hP
  have hD : va_D A [(ob, .inl (ko, 1, .inr (.inl (fun j9 => lN ((upN F 0 0) j9)))))] := hD
  refine lv_goto (tgt := 14) hx hb d_La_message_8 (by decide) ?_
  refine lv_iconst (v := (nI 0)) hx hb d_La_message_14 (by decide +kernel) ?_
  have hP9 := hP.sub (ws' := [(ob, .inl (ko, 1, .inr (.inl (fun j9 => lN ((upN F 0 0) j9)))))]) [0] rfl
  have hD9 := hD.sub (ws' := [(ob, .inl (ko, 1, .inr (.inl (fun j9 => lN ((upN F 0 0) j9)))))]) [0] (by decide) rfl
  have hK9 := hK.sub (tys' := []) [] rfl
  rw [hQg]
  exact W.iret (v := (nI 0)) hx hb hr (fun t ht hW => ⟨⟨(nI 0), (), rfl, rfl, by rw [ht]; exact hP9, va_K.moved hW.alike hK9, hD9⟩, hS.F ht⟩) hS.2.2 d_La_message_15
