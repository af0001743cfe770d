-- ThresholdBenchModel.thrown
set_option maxHeartbeats 4000000 in
set_option maxRecDepth 100000 in
theorem c_Mo_thrown (l : Launch) (dC : Nat → ClassId) (dI : Nat → Nat → Nat) (h0 : Nat) (th : Int32) (w0 : Value) (w1 : Value) (w2 : Value) (w3 : Value) (w4 : Value) (w5 : Value) (w6 : Value) (w7 : Value) (w9 : Value) (w10 : Value) (w11 : Value) (w12 : Value) (w13 : Value) (w14 : Value) (w15 : Value) (w16 : Value) (w17 : Value) (w18 : Value) (w19 : Value) (w20 : Value) (w21 : Value) (w22 : Value) (w23 : Value) (w24 : Value) (w25 : Value) (w26 : Value) (w27 : Value) (w28 : Value) (w29 : Value) (w30 : Value) (w31 : Value) (w32 : Value) (w33 : Value) (sz : Nat)  : Met l y_Mo_thrown (.code y_Mo_thrown prog_14_method_2_code 1 (some .int) :: AW) ({ frames := 0, cells := 0, slots := 0, locals := 0 } : Room) (va_Pc [.ref h0] (pw (dC, dI) CL [(h0, .inr (11, [w0, w1, w2, w3, w4, w5, w6, w7, .int th, w9, w10, w11, w12, w13, w14, w15, w16, w17, w18, w19, w20, w21, w22, w23, w24, w25, w26, w27, w28, w29, w30, w31, w32, w33]))] [] sz)) (va_Qi (fun (r : Int32) (u : Unit) => r = th) (fun (u : Unit) t => qw (dC, dI) CL (va_A [(h0, .inr (11, [w0, w1, w2, w3, w4, w5, w6, w7, .int th, w9, w10, w11, w12, w13, w14, w15, w16, w17, w18, w19, w20, w21, w22, w23, w24, w25, w26, w27, w28, w29, w30, w31, w32, w33]))] sz) ((fun _ : Unit => [(h0, .inr (11, [w0, w1, w2, w3, w4, w5, w6, w7, .int th, w9, w10, w11, w12, w13, w14, w15, w16, w17, w18, w19, w20, w21, w22, w23, w24, w25, w26, w27, w28, w29, w30, w31, w32, w33]))]) u) ((fun _ : Unit => []) u) t) (va_A [(h0, .inr (11, [w0, w1, w2, w3, w4, w5, w6, w7, .int th, w9, w10, w11, w12, w13, w14, w15, w16, w17, w18, w19, w20, w21, w22, w23, w24, w25, w26, w27, w28, w29, w30, w31, w32, w33]))] sz)) 0 0 (va_A [(h0, .inr (11, [w0, w1, w2, w3, w4, w5, w6, w7, .int th, w9, w10, w11, w12, w13, w14, w15, w16, w17, w18, w19, w20, w21, w22, w23, w24, w25, w26, w27, w28, w29, w30, w31, w32, w33]))] sz) := by
  refine Met.ofW (cc := prog_14_method_2_code) (maxL := 1) (ret := (some .int)) (by decide) rfl ?_
  intro p e s m args below meth c s₁ B hml hv
  obtain ⟨rfl, hsz, hP, hK, hD0, hZ, hN⟩ := hv
  have hx := B.exec
  have hb := B.bytes
  have hr := B.returns
  have hts := kw (atoms_spec (ws := .code y_Mo_thrown prog_14_method_2_code 1 (some .int) :: AW) B.pre)
  have hown : s.vm.findClass R_Mo = some m.cls := findClass_of_methodNamed B.named
  have hlocks := B.notSynchronized
  subst hsz
  have hD := hD0.self (sz := s.heap.size)
  obtain ⟨Qg, hQg⟩ : ∃ q, q = MQ below (va_Qi (fun (r : Int32) (u : Unit) => r = th) (fun (u : Unit) t => qw (dC, dI) CL (va_A [(h0, .inr (11, [w0, w1, w2, w3, w4, w5, w6, w7, .int th, w9, w10, w11, w12, w13, w14, w15, w16, w17, w18, w19, w20, w21, w22, w23, w24, w25, w26, w27, w28, w29, w30, w31, w32, w33]))] s.heap.size) ((fun _ : Unit => [(h0, .inr (11, [w0, w1, w2, w3, w4, w5, w6, w7, .int th, w9, w10, w11, w12, w13, w14, w15, w16, w17, w18, w19, w20, w21, w22, w23, w24, w25, w26, w27, w28, w29, w30, w31, w32, w33]))]) u) ((fun _ : Unit => []) u) t) (va_A [(h0, .inr (11, [w0, w1, w2, w3, w4, w5, w6, w7, .int th, w9, w10, w11, w12, w13, w14, w15, w16, w17, w18, w19, w20, w21, w22, w23, w24, w25, w26, w27, w28, w29, w30, w31, w32, w33]))] s.heap.size)) ([.ref h0] : List Value).toArray s 0 0 (va_A [(h0, .inr (11, [w0, w1, w2, w3, w4, w5, w6, w7, .int th, w9, w10, w11, w12, w13, w14, w15, w16, w17, w18, w19, w20, w21, w22, w23, w24, w25, w26, w27, w28, w29, w30, w31, w32, w33]))] s.heap.size) := ⟨_, rfl⟩
  rw [← hQg]
  generalize hAe : va_A [(h0, .inr (11, [w0, w1, w2, w3, w4, w5, w6, w7, .int th, w9, w10, w11, w12, w13, w14, w15, w16, w17, w18, w19, w20, w21, w22, w23, w24, w25, w26, w27, w28, w29, w30, w31, w32, w33]))] s.heap.size = A at hD hZ hQg
  have hA : ∀ q : Nat, s.heap.size ≤ q → A q := fun q h => by rw [← hAe]; exact Or.inr h
  have hS : va_S A s.heap s.heap [] := va_S.rf
  have hP : va_P (dC, dI) CL [(h0, .inr (11, [w0, w1, w2, w3, w4, w5, w6, w7, .int th, w9, w10, w11, w12, w13, w14, w15, w16, w17, w18, w19, w20, w21, w22, w23, w24, w25, w26, w27, w28, w29, w30, w31, w32, w33]))] s.heap := hP
  have hl := lv_entry ([.ref h0]) (n := 1) (Nat.le_of_ble_eq_true rfl)
  rw [lg_entry_eq]
  generalize (lg_sl ([.ref h0]) ++ List.replicate (1 - (lg_sl ([.ref h0])).length) Slot.unset).toArray = ls at hl ⊢
  have hl : lv_has ls 1 [(0, .ref h0)] := hl
  show W p l e ({ frames := 0, cells := 0, slots := 0, locals := 0 } : Room) s m ([.ref h0] : List Value).toArray below meth c s.heap [] 0 0 Qg (F0 m 0 ls [])
  refine lv_aload_n hx hb d_Mo_thrown_0 rfl (lv_at hl 0 rfl) ?_
  refine va_get (D := (dC, dI)) (ci := 11) (v := .int th) (C := R_Mo) (T := F_Mo) (N := 34) hx hb hts i_Mo hown hK hP 0 rfl rfl 8 (by decide) (hts _ m_254) (fun _ h9 => h9) rfl d_Mo_thrown_1 ?_
  have hP9 := hP.sub (ws' := [(h0, .inr (11, [w0, w1, w2, w3, w4, w5, w6, w7, .int th, w9, w10, w11, w12, w13, w14, w15, w16, w17, w18, w19, w20, w21, w22, w23, w24, w25, w26, w27, w28, w29, w30, w31, w32, w33]))]) [0] rfl
  have hD9 := hD.sub (ws' := [(h0, .inr (11, [w0, w1, w2, w3, w4, w5, w6, w7, .int th, w9, w10, w11, w12, w13, w14, w15, w16, w17, w18, w19, w20, w21, w22, w23, w24, w25, w26, w27, w28, w29, w30, w31, w32, w33]))]) [0] (by decide) rfl
  have hK9 := hK.sub (tys' := []) [] rfl
  rw [hQg]
  exact W.iret (v := th) hx hb hr (fun t ht hW => ⟨⟨th, (), rfl, rfl, by rw [ht]; exact hP9, va_K.moved hW.alike hK9, hD9⟩, hS.F ht⟩) hS.2.2 d_Mo_thrown_4

-- ThresholdBenchModel.fails
set_option maxHeartbeats 4000000 in
set_option maxRecDepth 100000 in
theorem c_Mo_fails0 (l : Launch) (dC : Nat → ClassId) (dI : Nat → Nat → Nat) (h0 : Nat) (cd : Nat) (w0 : Value) (w1 : Value) (w2 : Value) (w3 : Value) (w4 : Value) (w5 : Value) (w6 : Value) (w7 : Value) (w9 : Value) (w10 : Value) (w11 : Value) (w12 : Value) (w13 : Value) (w14 : Value) (w15 : Value) (w16 : Value) (w17 : Value) (w18 : Value) (w19 : Value) (w20 : Value) (w21 : Value) (w22 : Value) (w23 : Value) (w24 : Value) (w25 : Value) (w26 : Value) (w27 : Value) (w28 : Value) (w29 : Value) (w30 : Value) (w31 : Value) (w32 : Value) (w33 : Value) (sz : Nat)  : Met l y_Mo_fails (.code y_Mo_fails prog_14_method_3_code 3 (some .boolean) :: AW) ({ frames := 0, cells := 0, slots := 0, locals := 0 } : Room) (va_Pc [.ref h0, .int (nI 0), .int (nI cd)] (pw (dC, dI) CL [(h0, .inr (11, [w0, w1, w2, w3, w4, w5, w6, w7, .int (nI 0), w9, w10, w11, w12, w13, w14, w15, w16, w17, w18, w19, w20, w21, w22, w23, w24, w25, w26, w27, w28, w29, w30, w31, w32, w33]))] [] sz)) (va_Qi (fun (r : Int32) (u : Unit) => r = nI 0) (fun (u : Unit) t => qw (dC, dI) CL (va_A [(h0, .inr (11, [w0, w1, w2, w3, w4, w5, w6, w7, .int (nI 0), w9, w10, w11, w12, w13, w14, w15, w16, w17, w18, w19, w20, w21, w22, w23, w24, w25, w26, w27, w28, w29, w30, w31, w32, w33]))] sz) ((fun _ : Unit => [(h0, .inr (11, [w0, w1, w2, w3, w4, w5, w6, w7, .int (nI 0), w9, w10, w11, w12, w13, w14, w15, w16, w17, w18, w19, w20, w21, w22, w23, w24, w25, w26, w27, w28, w29, w30, w31, w32, w33]))]) u) ((fun _ : Unit => []) u) t) (va_A [(h0, .inr (11, [w0, w1, w2, w3, w4, w5, w6, w7, .int (nI 0), w9, w10, w11, w12, w13, w14, w15, w16, w17, w18, w19, w20, w21, w22, w23, w24, w25, w26, w27, w28, w29, w30, w31, w32, w33]))] sz)) 0 0 (va_A [(h0, .inr (11, [w0, w1, w2, w3, w4, w5, w6, w7, .int (nI 0), w9, w10, w11, w12, w13, w14, w15, w16, w17, w18, w19, w20, w21, w22, w23, w24, w25, w26, w27, w28, w29, w30, w31, w32, w33]))] sz) := by
  refine Met.ofW (cc := prog_14_method_3_code) (maxL := 3) (ret := (some .boolean)) (by decide) rfl ?_
  intro p e s m args below meth c s₁ B hml hv
  obtain ⟨rfl, hsz, hP, hK, hD0, hZ, hN⟩ := hv
  have hx := B.exec
  have hb := B.bytes
  have hr := B.returns
  have hts := kw (atoms_spec (ws := .code y_Mo_fails prog_14_method_3_code 3 (some .boolean) :: AW) B.pre)
  have hown : s.vm.findClass R_Mo = some m.cls := findClass_of_methodNamed B.named
  have hlocks := B.notSynchronized
  subst hsz
  have hD := hD0.self (sz := s.heap.size)
  obtain ⟨Qg, hQg⟩ : ∃ q, q = MQ below (va_Qi (fun (r : Int32) (u : Unit) => r = nI 0) (fun (u : Unit) t => qw (dC, dI) CL (va_A [(h0, .inr (11, [w0, w1, w2, w3, w4, w5, w6, w7, .int (nI 0), w9, w10, w11, w12, w13, w14, w15, w16, w17, w18, w19, w20, w21, w22, w23, w24, w25, w26, w27, w28, w29, w30, w31, w32, w33]))] s.heap.size) ((fun _ : Unit => [(h0, .inr (11, [w0, w1, w2, w3, w4, w5, w6, w7, .int (nI 0), w9, w10, w11, w12, w13, w14, w15, w16, w17, w18, w19, w20, w21, w22, w23, w24, w25, w26, w27, w28, w29, w30, w31, w32, w33]))]) u) ((fun _ : Unit => []) u) t) (va_A [(h0, .inr (11, [w0, w1, w2, w3, w4, w5, w6, w7, .int (nI 0), w9, w10, w11, w12, w13, w14, w15, w16, w17, w18, w19, w20, w21, w22, w23, w24, w25, w26, w27, w28, w29, w30, w31, w32, w33]))] s.heap.size)) ([.ref h0, .int (nI 0), .int (nI cd)] : List Value).toArray s 0 0 (va_A [(h0, .inr (11, [w0, w1, w2, w3, w4, w5, w6, w7, .int (nI 0), w9, w10, w11, w12, w13, w14, w15, w16, w17, w18, w19, w20, w21, w22, w23, w24, w25, w26, w27, w28, w29, w30, w31, w32, w33]))] s.heap.size) := ⟨_, rfl⟩
  rw [← hQg]
  generalize hAe : va_A [(h0, .inr (11, [w0, w1, w2, w3, w4, w5, w6, w7, .int (nI 0), w9, w10, w11, w12, w13, w14, w15, w16, w17, w18, w19, w20, w21, w22, w23, w24, w25, w26, w27, w28, w29, w30, w31, w32, w33]))] s.heap.size = A at hD hZ hQg
  have hA : ∀ q : Nat, s.heap.size ≤ q → A q := fun q h => by rw [← hAe]; exact Or.inr h
  have hS : va_S A s.heap s.heap [] := va_S.rf
  have hP : va_P (dC, dI) CL [(h0, .inr (11, [w0, w1, w2, w3, w4, w5, w6, w7, .int (nI 0), w9, w10, w11, w12, w13, w14, w15, w16, w17, w18, w19, w20, w21, w22, w23, w24, w25, w26, w27, w28, w29, w30, w31, w32, w33]))] s.heap := hP
  have hl := lv_entry ([.ref h0, .int (nI 0), .int (nI cd)]) (n := 3) (Nat.le_of_ble_eq_true rfl)
  rw [lg_entry_eq]
  generalize (lg_sl ([.ref h0, .int (nI 0), .int (nI cd)]) ++ List.replicate (3 - (lg_sl ([.ref h0, .int (nI 0), .int (nI cd)])).length) Slot.unset).toArray = ls at hl ⊢
  have hl : lv_has ls 3 [(0, .ref h0), (1, .int (nI 0)), (2, .int (nI cd))] := hl
  show W p l e ({ frames := 0, cells := 0, slots := 0, locals := 0 } : Room) s m ([.ref h0, .int (nI 0), .int (nI cd)] : List Value).toArray below meth c s.heap [] 0 0 Qg (F0 m 0 ls [])
  refine lv_iload_n hx hb d_Mo_fails_0 rfl (lv_at hl 1 rfl) ?_
  refine lv_if_eq (tgt := 16) hx hb d_Mo_fails_1 (by decide) (fun c1 => ?_) (fun c1 => absurd (by decide) c1)
  refine lv_aload_n hx hb d_Mo_fails_16 rfl (lv_at hl 0 rfl) ?_
  refine va_get (D := (dC, dI)) (ci := 11) (v := .int (nI 0)) (C := R_Mo) (T := F_Mo) (N := 34) hx hb hts i_Mo hown hK hP 0 rfl rfl 8 (by decide) (hts _ m_254) (fun _ h9 => h9) rfl d_Mo_fails_17 ?_
  refine lv_if_eq (tgt := 27) hx hb d_Mo_fails_20 (by decide) (fun c20 => ?_) (fun c20 => absurd (by decide) c20)
  refine lv_iconst (v := (nI 0)) hx hb d_Mo_fails_27 (by decide +kernel) ?_
  have hP9 := hP.sub (ws' := [(h0, .inr (11, [w0, w1, w2, w3, w4, w5, w6, w7, .int (nI 0), w9, w10, w11, w12, w13, w14, w15, w16, w17, w18, w19, w20, w21, w22, w23, w24, w25, w26, w27, w28, w29, w30, w31, w32, w33]))]) [0] rfl
  have hD9 := hD.sub (ws' := [(h0, .inr (11, [w0, w1, w2, w3, w4, w5, w6, w7, .int (nI 0), w9, w10, w11, w12, w13, w14, w15, w16, w17, w18, w19, w20, w21, w22, w23, w24, w25, w26, w27, w28, w29, w30, w31, w32, w33]))]) [0] (by decide) rfl
  have hK9 := hK.sub (tys' := []) [] rfl
  rw [hQg]
  exact W.zret (v := (nI 0)) hx hb hr rfl (fun t ht hW => ⟨⟨(nI 0), (), rfl, rfl, by rw [ht]; exact hP9, va_K.moved hW.alike hK9, hD9⟩, hS.F ht⟩) hS.2.2 d_Mo_fails_28

-- ThresholdBenchModel.fails
set_option maxHeartbeats 4000000 in
set_option maxRecDepth 100000 in
theorem c_Mo_fails1 (l : Launch) (dC : Nat → ClassId) (dI : Nat → Nat → Nat) (h0 : Nat) (w0 : Value) (w1 : Value) (w2 : Value) (w3 : Value) (w4 : Value) (w5 : Value) (w6 : Value) (w7 : Value) (w9 : Value) (w10 : Value) (w11 : Value) (w12 : Value) (w13 : Value) (w14 : Value) (w15 : Value) (w16 : Value) (w17 : Value) (w18 : Value) (w19 : Value) (w20 : Value) (w21 : Value) (w22 : Value) (w23 : Value) (w24 : Value) (w25 : Value) (w26 : Value) (w27 : Value) (w28 : Value) (w29 : Value) (w30 : Value) (w31 : Value) (w32 : Value) (w33 : Value) (sz : Nat)  : Met l y_Mo_fails (.code y_Mo_fails prog_14_method_3_code 3 (some .boolean) :: AW) ({ frames := 0, cells := 0, slots := 0, locals := 0 } : Room) (va_Pc [.ref h0, .int (nI 1), .int (nI 1)] (pw (dC, dI) CL [(h0, .inr (11, [w0, w1, w2, w3, w4, w5, w6, w7, .int (nI 0), w9, w10, w11, w12, w13, w14, w15, w16, w17, w18, w19, w20, w21, w22, w23, w24, w25, w26, w27, w28, w29, w30, w31, w32, w33]))] [] sz)) (va_Qi (fun (r : Int32) (u : Unit) => r = nI 1) (fun (u : Unit) t => qw (dC, dI) CL (va_A [(h0, .inr (11, [w0, w1, w2, w3, w4, w5, w6, w7, .int (nI 0), w9, w10, w11, w12, w13, w14, w15, w16, w17, w18, w19, w20, w21, w22, w23, w24, w25, w26, w27, w28, w29, w30, w31, w32, w33]))] sz) ((fun _ : Unit => [(h0, .inr (11, [w0, w1, w2, w3, w4, w5, w6, w7, .int (nI 1), w9, w10, w11, w12, w13, w14, w15, w16, w17, w18, w19, w20, w21, w22, w23, w24, w25, w26, w27, w28, w29, w30, w31, w32, w33]))]) u) ((fun _ : Unit => []) u) t) (va_A [(h0, .inr (11, [w0, w1, w2, w3, w4, w5, w6, w7, .int (nI 0), w9, w10, w11, w12, w13, w14, w15, w16, w17, w18, w19, w20, w21, w22, w23, w24, w25, w26, w27, w28, w29, w30, w31, w32, w33]))] sz)) 0 0 (va_A [(h0, .inr (11, [w0, w1, w2, w3, w4, w5, w6, w7, .int (nI 0), w9, w10, w11, w12, w13, w14, w15, w16, w17, w18, w19, w20, w21, w22, w23, w24, w25, w26, w27, w28, w29, w30, w31, w32, w33]))] sz) := by
  refine Met.ofW (cc := prog_14_method_3_code) (maxL := 3) (ret := (some .boolean)) (by decide) rfl ?_
  intro p e s m args below meth c s₁ B hml hv
  obtain ⟨rfl, hsz, hP, hK, hD0, hZ, hN⟩ := hv
  have hx := B.exec
  have hb := B.bytes
  have hr := B.returns
  have hts := kw (atoms_spec (ws := .code y_Mo_fails prog_14_method_3_code 3 (some .boolean) :: AW) B.pre)
  have hown : s.vm.findClass R_Mo = some m.cls := findClass_of_methodNamed B.named
  have hlocks := B.notSynchronized
  subst hsz
  have hD := hD0.self (sz := s.heap.size)
  obtain ⟨Qg, hQg⟩ : ∃ q, q = MQ below (va_Qi (fun (r : Int32) (u : Unit) => r = nI 1) (fun (u : Unit) t => qw (dC, dI) CL (va_A [(h0, .inr (11, [w0, w1, w2, w3, w4, w5, w6, w7, .int (nI 0), w9, w10, w11, w12, w13, w14, w15, w16, w17, w18, w19, w20, w21, w22, w23, w24, w25, w26, w27, w28, w29, w30, w31, w32, w33]))] s.heap.size) ((fun _ : Unit => [(h0, .inr (11, [w0, w1, w2, w3, w4, w5, w6, w7, .int (nI 1), w9, w10, w11, w12, w13, w14, w15, w16, w17, w18, w19, w20, w21, w22, w23, w24, w25, w26, w27, w28, w29, w30, w31, w32, w33]))]) u) ((fun _ : Unit => []) u) t) (va_A [(h0, .inr (11, [w0, w1, w2, w3, w4, w5, w6, w7, .int (nI 0), w9, w10, w11, w12, w13, w14, w15, w16, w17, w18, w19, w20, w21, w22, w23, w24, w25, w26, w27, w28, w29, w30, w31, w32, w33]))] s.heap.size)) ([.ref h0, .int (nI 1), .int (nI 1)] : List Value).toArray s 0 0 (va_A [(h0, .inr (11, [w0, w1, w2, w3, w4, w5, w6, w7, .int (nI 0), w9, w10, w11, w12, w13, w14, w15, w16, w17, w18, w19, w20, w21, w22, w23, w24, w25, w26, w27, w28, w29, w30, w31, w32, w33]))] s.heap.size) := ⟨_, rfl⟩
  rw [← hQg]
  generalize hAe : va_A [(h0, .inr (11, [w0, w1, w2, w3, w4, w5, w6, w7, .int (nI 0), w9, w10, w11, w12, w13, w14, w15, w16, w17, w18, w19, w20, w21, w22, w23, w24, w25, w26, w27, w28, w29, w30, w31, w32, w33]))] s.heap.size = A at hD hZ hQg
  have hA : ∀ q : Nat, s.heap.size ≤ q → A q := fun q h => by rw [← hAe]; exact Or.inr h
  have hS : va_S A s.heap s.heap [] := va_S.rf
  have hP : va_P (dC, dI) CL [(h0, .inr (11, [w0, w1, w2, w3, w4, w5, w6, w7, .int (nI 0), w9, w10, w11, w12, w13, w14, w15, w16, w17, w18, w19, w20, w21, w22, w23, w24, w25, w26, w27, w28, w29, w30, w31, w32, w33]))] s.heap := hP
  have hl := lv_entry ([.ref h0, .int (nI 1), .int (nI 1)]) (n := 3) (Nat.le_of_ble_eq_true rfl)
  rw [lg_entry_eq]
  generalize (lg_sl ([.ref h0, .int (nI 1), .int (nI 1)]) ++ List.replicate (3 - (lg_sl ([.ref h0, .int (nI 1), .int (nI 1)])).length) Slot.unset).toArray = ls at hl ⊢
  have hl : lv_has ls 3 [(0, .ref h0), (1, .int (nI 1)), (2, .int (nI 1))] := hl
  show W p l e ({ frames := 0, cells := 0, slots := 0, locals := 0 } : Room) s m ([.ref h0, .int (nI 1), .int (nI 1)] : List Value).toArray below meth c s.heap [] 0 0 Qg (F0 m 0 ls [])
  refine lv_iload_n hx hb d_Mo_fails_0 rfl (lv_at hl 1 rfl) ?_
  refine lv_if_eq (tgt := 16) hx hb d_Mo_fails_1 (by decide) (fun c1 => absurd c1 (by decide)) (fun c1 => ?_)
  refine lv_aload_n hx hb d_Mo_fails_4 rfl (lv_at hl 0 rfl) ?_
  refine va_get (D := (dC, dI)) (ci := 11) (v := .int (nI 0)) (C := R_Mo) (T := F_Mo) (N := 34) hx hb hts i_Mo hown hK hP 0 rfl rfl 8 (by decide) (hts _ m_254) (fun _ h9 => h9) rfl d_Mo_fails_5 ?_
  refine lv_if_ne (tgt := 16) hx hb d_Mo_fails_8 (by decide) (fun c8 => absurd (by decide) c8) (fun c8 => ?_)
  refine lv_aload_n hx hb d_Mo_fails_11 rfl (lv_at hl 0 rfl) ?_
  refine lv_iload_n hx hb d_Mo_fails_12 rfl (lv_at hl 2 rfl) ?_
  refine va_put (D := (dC, dI)) (ci := 11) (v := .int (nI 1)) (ty := .int) (C := R_Mo) (T := F_Mo) (N := 34) hx hb hts i_Mo t_Mo t_Mo_ok n_Mo hown hK hP hD hS 0 rfl rfl 8 (by decide) (hts _ m_254) (fun _ h9 => h9) rfl (by decide +kernel) rfl rfl (Nat.le_of_ble_eq_true rfl) d_Mo_fails_13 (fun H locs hP hD hS => ?_)
  have hP : va_P (dC, dI) CL [(h0, .inr (11, [w0, w1, w2, w3, w4, w5, w6, w7, .int (nI 1), w9, w10, w11, w12, w13, w14, w15, w16, w17, w18, w19, w20, w21, w22, w23, w24, w25, w26, w27, w28, w29, w30, w31, w32, w33]))] H := hP
  have hD : va_D A [(h0, .inr (11, [w0, w1, w2, w3, w4, w5, w6, w7, .int (nI 1), w9, w10, w11, w12, w13, w14, w15, w16, w17, w18, w19, w20, w21, w22, w23, w24, w25, w26, w27, w28, w29, w30, w31, w32, w33]))] := hD
  refine lv_aload_n hx hb d_Mo_fails_16 rfl (lv_at hl 0 rfl) ?_
  refine va_get (D := (dC, dI)) (ci := 11) (v := .int (nI 1)) (C := R_Mo) (T := F_Mo) (N := 34) hx hb hts i_Mo hown hK hP 0 rfl rfl 8 (by decide) (hts _ m_254) (fun _ h9 => h9) rfl d_Mo_fails_17 ?_
  refine lv_if_eq (tgt := 27) hx hb d_Mo_fails_20 (by decide) (fun c20 => absurd c20 (by decide)) (fun c20 => ?_)
  refine lv_iconst (v := (nI 1)) hx hb d_Mo_fails_23 (by decide +kernel) ?_
  refine lv_goto (tgt := 28) hx hb d_Mo_fails_24 (by decide) ?_
  have hP9 := hP.sub (ws' := [(h0, .inr (11, [w0, w1, w2, w3, w4, w5, w6, w7, .int (nI 1), w9, w10, w11, w12, w13, w14, w15, w16, w17, w18, w19, w20, w21, w22, w23, w24, w25, w26, w27, w28, w29, w30, w31, w32, w33]))]) [0] rfl
  have hD9 := hD.sub (ws' := [(h0, .inr (11, [w0, w1, w2, w3, w4, w5, w6, w7, .int (nI 1), w9, w10, w11, w12, w13, w14, w15, w16, w17, w18, w19, w20, w21, w22, w23, w24, w25, w26, w27, w28, w29, w30, w31, w32, w33]))]) [0] (by decide) rfl
  have hK9 := hK.sub (tys' := []) [] rfl
  rw [hQg]
  exact W.zret (v := (nI 1)) hx hb hr rfl (fun t ht hW => ⟨⟨(nI 1), (), rfl, rfl, by rw [ht]; exact hP9, va_K.moved hW.alike hK9, hD9⟩, hS.F ht⟩) hS.2.2 d_Mo_fails_28

-- ThresholdBenchModel.used
set_option maxHeartbeats 4000000 in
set_option maxRecDepth 100000 in
theorem c_Mo_used (l : Launch) (dC : Nat → ClassId) (dI : Nat → Nat → Nat) (h0 : Nat) (th : Int32) (tp : Nat) (w0 : Value) (w1 : Value) (w2 : Value) (w3 : Value) (w4 : Value) (w5 : Value) (w6 : Value) (w7 : Value) (w9 : Value) (w10 : Value) (w11 : Value) (w12 : Value) (w13 : Value) (w14 : Value) (w15 : Value) (w16 : Value) (w17 : Value) (w18 : Value) (w19 : Value) (w20 : Value) (w21 : Value) (w22 : Value) (w23 : Value) (w24 : Value) (w25 : Value) (w26 : Value) (w27 : Value) (w28 : Value) (w29 : Value) (w31 : Value) (w32 : Value) (w33 : Value) (sz : Nat)  : Met l y_Mo_used (.code y_Mo_used prog_14_method_37_code 2 (some .int) :: AW) ({ frames := 0, cells := 0, slots := 0, locals := 0 } : Room) (va_Pc [.ref h0] (pw (dC, dI) CL [(h0, .inr (11, [w0, w1, w2, w3, w4, w5, w6, w7, .int th, w9, w10, w11, w12, w13, w14, w15, w16, w17, w18, w19, w20, w21, w22, w23, w24, w25, w26, w27, w28, w29, .int (nI tp), w31, w32, w33]))] [] sz)) (va_Qi (fun (r : Int32) (u : Unit) => r = nI tp) (fun (u : Unit) t => qw (dC, dI) CL (va_A [(h0, .inr (11, [w0, w1, w2, w3, w4, w5, w6, w7, .int th, w9, w10, w11, w12, w13, w14, w15, w16, w17, w18, w19, w20, w21, w22, w23, w24, w25, w26, w27, w28, w29, .int (nI tp), w31, w32, w33]))] sz) ((fun _ : Unit => [(h0, .inr (11, [w0, w1, w2, w3, w4, w5, w6, w7, .int (nI 0), w9, w10, w11, w12, w13, w14, w15, w16, w17, w18, w19, w20, w21, w22, w23, w24, w25, w26, w27, w28, w29, .int (nI 0), w31, w32, w33]))]) u) ((fun _ : Unit => []) u) t) (va_A [(h0, .inr (11, [w0, w1, w2, w3, w4, w5, w6, w7, .int th, w9, w10, w11, w12, w13, w14, w15, w16, w17, w18, w19, w20, w21, w22, w23, w24, w25, w26, w27, w28, w29, .int (nI tp), w31, w32, w33]))] sz)) 0 0 (va_A [(h0, .inr (11, [w0, w1, w2, w3, w4, w5, w6, w7, .int th, w9, w10, w11, w12, w13, w14, w15, w16, w17, w18, w19, w20, w21, w22, w23, w24, w25, w26, w27, w28, w29, .int (nI tp), w31, w32, w33]))] sz) := by
  refine Met.ofW (cc := prog_14_method_37_code) (maxL := 2) (ret := (some .int)) (by decide) rfl ?_
  intro p e s m args below meth c s₁ B hml hv
  obtain ⟨rfl, hsz, hP, hK, hD0, hZ, hN⟩ := hv
  have hx := B.exec
  have hb := B.bytes
  have hr := B.returns
  have hts := kw (atoms_spec (ws := .code y_Mo_used prog_14_method_37_code 2 (some .int) :: AW) B.pre)
  have hown : s.vm.findClass R_Mo = some m.cls := findClass_of_methodNamed B.named
  have hlocks := B.notSynchronized
  subst hsz
  have hD := hD0.self (sz := s.heap.size)
  obtain ⟨Qg, hQg⟩ : ∃ q, q = MQ below (va_Qi (fun (r : Int32) (u : Unit) => r = nI tp) (fun (u : Unit) t => qw (dC, dI) CL (va_A [(h0, .inr (11, [w0, w1, w2, w3, w4, w5, w6, w7, .int th, w9, w10, w11, w12, w13, w14, w15, w16, w17, w18, w19, w20, w21, w22, w23, w24, w25, w26, w27, w28, w29, .int (nI tp), w31, w32, w33]))] s.heap.size) ((fun _ : Unit => [(h0, .inr (11, [w0, w1, w2, w3, w4, w5, w6, w7, .int (nI 0), w9, w10, w11, w12, w13, w14, w15, w16, w17, w18, w19, w20, w21, w22, w23, w24, w25, w26, w27, w28, w29, .int (nI 0), w31, w32, w33]))]) u) ((fun _ : Unit => []) u) t) (va_A [(h0, .inr (11, [w0, w1, w2, w3, w4, w5, w6, w7, .int th, w9, w10, w11, w12, w13, w14, w15, w16, w17, w18, w19, w20, w21, w22, w23, w24, w25, w26, w27, w28, w29, .int (nI tp), w31, w32, w33]))] s.heap.size)) ([.ref h0] : List Value).toArray s 0 0 (va_A [(h0, .inr (11, [w0, w1, w2, w3, w4, w5, w6, w7, .int th, w9, w10, w11, w12, w13, w14, w15, w16, w17, w18, w19, w20, w21, w22, w23, w24, w25, w26, w27, w28, w29, .int (nI tp), w31, w32, w33]))] s.heap.size) := ⟨_, rfl⟩
  rw [← hQg]
  generalize hAe : va_A [(h0, .inr (11, [w0, w1, w2, w3, w4, w5, w6, w7, .int th, w9, w10, w11, w12, w13, w14, w15, w16, w17, w18, w19, w20, w21, w22, w23, w24, w25, w26, w27, w28, w29, .int (nI tp), w31, w32, w33]))] s.heap.size = A at hD hZ hQg
  have hA : ∀ q : Nat, s.heap.size ≤ q → A q := fun q h => by rw [← hAe]; exact Or.inr h
  have hS : va_S A s.heap s.heap [] := va_S.rf
  have hP : va_P (dC, dI) CL [(h0, .inr (11, [w0, w1, w2, w3, w4, w5, w6, w7, .int th, w9, w10, w11, w12, w13, w14, w15, w16, w17, w18, w19, w20, w21, w22, w23, w24, w25, w26, w27, w28, w29, .int (nI tp), w31, w32, w33]))] s.heap := hP
  have hl := lv_entry ([.ref h0]) (n := 2) (Nat.le_of_ble_eq_true rfl)
  rw [lg_entry_eq]
  generalize (lg_sl ([.ref h0]) ++ List.replicate (2 - (lg_sl ([.ref h0])).length) Slot.unset).toArray = ls at hl ⊢
  have hl : lv_has ls 2 [(0, .ref h0)] := hl
  show W p l e ({ frames := 0, cells := 0, slots := 0, locals := 0 } : Room) s m ([.ref h0] : List Value).toArray below meth c s.heap [] 0 0 Qg (F0 m 0 ls [])
  refine lv_aload_n hx hb d_Mo_used_0 rfl (lv_at hl 0 rfl) ?_
  refine lv_iconst (v := (nI 0)) hx hb d_Mo_used_1 (by decide +kernel) ?_
  refine va_put (D := (dC, dI)) (ci := 11) (v := .int (nI 0)) (ty := .int) (C := R_Mo) (T := F_Mo) (N := 34) hx hb hts i_Mo t_Mo t_Mo_ok n_Mo hown hK hP hD hS 0 rfl rfl 8 (by decide) (hts _ m_254) (fun _ h9 => h9) rfl (by decide +kernel) rfl rfl (Nat.le_of_ble_eq_true rfl) d_Mo_used_2 (fun H locs hP hD hS => ?_)
  have hP : va_P (dC, dI) CL [(h0, .inr (11, [w0, w1, w2, w3, w4, w5, w6, w7, .int (nI 0), w9, w10, w11, w12, w13, w14, w15, w16, w17, w18, w19, w20, w21, w22, w23, w24, w25, w26, w27, w28, w29, .int (nI tp), w31, w32, w33]))] H := hP
  have hD : va_D A [(h0, .inr (11, [w0, w1, w2, w3, w4, w5, w6, w7, .int (nI 0), w9, w10, w11, w12, w13, w14, w15, w16, w17, w18, w19, w20, w21, w22, w23, w24, w25, w26, w27, w28, w29, .int (nI tp), w31, w32, w33]))] := hD
  refine lv_aload_n hx hb d_Mo_used_5 rfl (lv_at hl 0 rfl) ?_
  refine va_get (D := (dC, dI)) (ci := 11) (v := .int (nI tp)) (C := R_Mo) (T := F_Mo) (N := 34) hx hb hts i_Mo hown hK hP 0 rfl rfl 30 (by decide) (hts _ m_255) (fun _ h9 => h9) rfl d_Mo_used_6 ?_
  refine lv_istore_n (lv' := [(1, .int (nI tp)), (0, .ref h0)]) hx hb d_Mo_used_9 rfl hl (by decide) rfl (fun ls hl => ?_)
  refine lv_aload_n hx hb d_Mo_used_10 rfl (lv_at hl 1 rfl) ?_
  refine lv_iconst (v := (nI 0)) hx hb d_Mo_used_11 (by decide +kernel) ?_
  refine va_put (D := (dC, dI)) (ci := 11) (v := .int (nI 0)) (ty := .int) (C := R_Mo) (T := F_Mo) (N := 34) hx hb hts i_Mo t_Mo t_Mo_ok n_Mo hown hK hP hD hS 0 rfl rfl 30 (by decide) (hts _ m_255) (fun _ h9 => h9) rfl (by decide +kernel) rfl rfl (Nat.le_of_ble_eq_true rfl) d_Mo_used_12 (fun H locs hP hD hS => ?_)
  have hP : va_P (dC, dI) CL [(h0, .inr (11, [w0, w1, w2, w3, w4, w5, w6, w7, .int (nI 0), w9, w10, w11, w12, w13, w14, w15, w16, w17, w18, w19, w20, w21, w22, w23, w24, w25, w26, w27, w28, w29, .int (nI 0), w31, w32, w33]))] H := hP
  have hD : va_D A [(h0, .inr (11, [w0, w1, w2, w3, w4, w5, w6, w7, .int (nI 0), w9, w10, w11, w12, w13, w14, w15, w16, w17, w18, w19, w20, w21, w22, w23, w24, w25, w26, w27, w28, w29, .int (nI 0), w31, w32, w33]))] := hD
  refine lv_iload_n hx hb d_Mo_used_15 rfl (lv_at hl 0 rfl) ?_
  have hP9 := hP.sub (ws' := [(h0, .inr (11, [w0, w1, w2, w3, w4, w5, w6, w7, .int (nI 0), w9, w10, w11, w12, w13, w14, w15, w16, w17, w18, w19, w20, w21, w22, w23, w24, w25, w26, w27, w28, w29, .int (nI 0), w31, w32, w33]))]) [0] rfl
  have hD9 := hD.sub (ws' := [(h0, .inr (11, [w0, w1, w2, w3, w4, w5, w6, w7, .int (nI 0), w9, w10, w11, w12, w13, w14, w15, w16, w17, w18, w19, w20, w21, w22, w23, w24, w25, w26, w27, w28, w29, .int (nI 0), w31, w32, w33]))]) [0] (by decide) rfl
  have hK9 := hK.sub (tys' := []) [] rfl
  rw [hQg]
  exact W.iret (v := (nI tp)) hx hb hr (fun t ht hW => ⟨⟨(nI tp), (), rfl, rfl, by rw [ht]; exact hP9, va_K.moved hW.alike hK9, hD9⟩, hS.F ht⟩) hS.2.2 d_Mo_used_16

-- ThresholdBenchModel.noSet
set_option maxHeartbeats 4000000 in
set_option maxRecDepth 100000 in
theorem c_Mo_noSet (l : Launch) (dC : Nat → ClassId) (dI : Nat → Nat → Nat) (h0 : Nat) (a1 : Int32) (a2 : Int32) (w0 : Value) (w1 : Value) (w2 : Value) (w3 : Value) (w4 : Value) (w5 : Value) (w6 : Value) (w7 : Value) (w8 : Value) (w9 : Value) (w10 : Value) (w11 : Value) (w12 : Value) (w13 : Value) (w14 : Value) (w15 : Value) (w16 : Value) (w19 : Value) (w20 : Value) (w21 : Value) (w22 : Value) (w23 : Value) (w24 : Value) (w25 : Value) (w26 : Value) (w27 : Value) (w28 : Value) (w29 : Value) (w30 : Value) (w31 : Value) (w32 : Value) (w33 : Value) (sz : Nat)  : Met l y_Mo_noSet (.code y_Mo_noSet prog_14_method_38_code 1 (none) :: AW) ({ frames := 0, cells := 0, slots := 0, locals := 0 } : Room) (va_Pc [.ref h0] (pw (dC, dI) CL [(h0, .inr (11, [w0, w1, w2, w3, w4, w5, w6, w7, w8, w9, w10, w11, w12, w13, w14, w15, w16, .int a1, .int a2, w19, w20, w21, w22, w23, w24, w25, w26, w27, w28, w29, w30, w31, w32, w33]))] [] sz)) (va_Qv (fun u : Unit => True) (fun (u : Unit) t => qw (dC, dI) CL (va_A [(h0, .inr (11, [w0, w1, w2, w3, w4, w5, w6, w7, w8, w9, w10, w11, w12, w13, w14, w15, w16, .int a1, .int a2, w19, w20, w21, w22, w23, w24, w25, w26, w27, w28, w29, w30, w31, w32, w33]))] sz) ((fun _ : Unit => [(h0, .inr (11, [w0, w1, w2, w3, w4, w5, w6, w7, w8, w9, w10, w11, w12, w13, w14, w15, w16, .int (nI 0), .int (nI 0), w19, w20, w21, w22, w23, w24, w25, w26, w27, w28, w29, w30, w31, w32, w33]))]) u) ((fun _ : Unit => []) u) t) (va_A [(h0, .inr (11, [w0, w1, w2, w3, w4, w5, w6, w7, w8, w9, w10, w11, w12, w13, w14, w15, w16, .int a1, .int a2, w19, w20, w21, w22, w23, w24, w25, w26, w27, w28, w29, w30, w31, w32, w33]))] sz)) 0 0 (va_A [(h0, .inr (11, [w0, w1, w2, w3, w4, w5, w6, w7, w8, w9, w10, w11, w12, w13, w14, w15, w16, .int a1, .int a2, w19, w20, w21, w22, w23, w24, w25, w26, w27, w28, w29, w30, w31, w32, w33]))] sz) := by
  refine Met.ofW (cc := prog_14_method_38_code) (maxL := 1) (ret := none) (by decide) rfl ?_
  intro p e s m args below meth c s₁ B hml hv
  obtain ⟨rfl, hsz, hP, hK, hD0, hZ, hN⟩ := hv
  have hx := B.exec
  have hb := B.bytes
  have hr := B.returns
  have hts := kw (atoms_spec (ws := .code y_Mo_noSet prog_14_method_38_code 1 (none) :: AW) B.pre)
  have hown : s.vm.findClass R_Mo = some m.cls := findClass_of_methodNamed B.named
  have hlocks := B.notSynchronized
  subst hsz
  have hD := hD0.self (sz := s.heap.size)
  obtain ⟨Qg, hQg⟩ : ∃ q, q = MQ below (va_Qv (fun u : Unit => True) (fun (u : Unit) t => qw (dC, dI) CL (va_A [(h0, .inr (11, [w0, w1, w2, w3, w4, w5, w6, w7, w8, w9, w10, w11, w12, w13, w14, w15, w16, .int a1, .int a2, w19, w20, w21, w22, w23, w24, w25, w26, w27, w28, w29, w30, w31, w32, w33]))] s.heap.size) ((fun _ : Unit => [(h0, .inr (11, [w0, w1, w2, w3, w4, w5, w6, w7, w8, w9, w10, w11, w12, w13, w14, w15, w16, .int (nI 0), .int (nI 0), w19, w20, w21, w22, w23, w24, w25, w26, w27, w28, w29, w30, w31, w32, w33]))]) u) ((fun _ : Unit => []) u) t) (va_A [(h0, .inr (11, [w0, w1, w2, w3, w4, w5, w6, w7, w8, w9, w10, w11, w12, w13, w14, w15, w16, .int a1, .int a2, w19, w20, w21, w22, w23, w24, w25, w26, w27, w28, w29, w30, w31, w32, w33]))] s.heap.size)) ([.ref h0] : List Value).toArray s 0 0 (va_A [(h0, .inr (11, [w0, w1, w2, w3, w4, w5, w6, w7, w8, w9, w10, w11, w12, w13, w14, w15, w16, .int a1, .int a2, w19, w20, w21, w22, w23, w24, w25, w26, w27, w28, w29, w30, w31, w32, w33]))] s.heap.size) := ⟨_, rfl⟩
  rw [← hQg]
  generalize hAe : va_A [(h0, .inr (11, [w0, w1, w2, w3, w4, w5, w6, w7, w8, w9, w10, w11, w12, w13, w14, w15, w16, .int a1, .int a2, w19, w20, w21, w22, w23, w24, w25, w26, w27, w28, w29, w30, w31, w32, w33]))] s.heap.size = A at hD hZ hQg
  have hA : ∀ q : Nat, s.heap.size ≤ q → A q := fun q h => by rw [← hAe]; exact Or.inr h
  have hS : va_S A s.heap s.heap [] := va_S.rf
  have hP : va_P (dC, dI) CL [(h0, .inr (11, [w0, w1, w2, w3, w4, w5, w6, w7, w8, w9, w10, w11, w12, w13, w14, w15, w16, .int a1, .int a2, w19, w20, w21, w22, w23, w24, w25, w26, w27, w28, w29, w30, w31, w32, w33]))] s.heap := hP
  have hl := lv_entry ([.ref h0]) (n := 1) (Nat.le_of_ble_eq_true rfl)
  rw [lg_entry_eq]
  generalize (lg_sl ([.ref h0]) ++ List.replicate (1 - (lg_sl ([.ref h0])).length) Slot.unset).toArray = ls at hl ⊢
  have hl : lv_has ls 1 [(0, .ref h0)] := hl
  show W p l e ({ frames := 0, cells := 0, slots := 0, locals := 0 } : Room) s m ([.ref h0] : List Value).toArray below meth c s.heap [] 0 0 Qg (F0 m 0 ls [])
  refine lv_aload_n hx hb d_Mo_noSet_0 rfl (lv_at hl 0 rfl) ?_
  refine lv_iconst (v := (nI 0)) hx hb d_Mo_noSet_1 (by decide +kernel) ?_
  refine va_put (D := (dC, dI)) (ci := 11) (v := .int (nI 0)) (ty := .int) (C := R_Mo) (T := F_Mo) (N := 34) hx hb hts i_Mo t_Mo t_Mo_ok n_Mo hown hK hP hD hS 0 rfl rfl 17 (by decide) (hts _ m_256) (fun _ h9 => h9) rfl (by decide +kernel) rfl rfl (Nat.le_of_ble_eq_true rfl) d_Mo_noSet_2 (fun H locs hP hD hS => ?_)
  have hP : va_P (dC, dI) CL [(h0, .inr (11, [w0, w1, w2, w3, w4, w5, w6, w7, w8, w9, w10, w11, w12, w13, w14, w15, w16, .int (nI 0), .int a2, w19, w20, w21, w22, w23, w24, w25, w26, w27, w28, w29, w30, w31, w32, w33]))] H := hP
  have hD : va_D A [(h0, .inr (11, [w0, w1, w2, w3, w4, w5, w6, w7, w8, w9, w10, w11, w12, w13, w14, w15, w16, .int (nI 0), .int a2, w19, w20, w21, w22, w23, w24, w25, w26, w27, w28, w29, w30, w31, w32, w33]))] := hD
  refine lv_aload_n hx hb d_Mo_noSet_5 rfl (lv_at hl 0 rfl) ?_
  refine lv_iconst (v := (nI 0)) hx hb d_Mo_noSet_6 (by decide +kernel) ?_
  refine va_put (D := (dC, dI)) (ci := 11) (v := .int (nI 0)) (ty := .int) (C := R_Mo) (T := F_Mo) (N := 34) hx hb hts i_Mo t_Mo t_Mo_ok n_Mo hown hK hP hD hS 0 rfl rfl 18 (by decide) (hts _ m_257) (fun _ h9 => h9) rfl (by decide +kernel) rfl rfl (Nat.le_of_ble_eq_true rfl) d_Mo_noSet_7 (fun H locs hP hD hS => ?_)
  have hP : va_P (dC, dI) CL [(h0, .inr (11, [w0, w1, w2, w3, w4, w5, w6, w7, w8, w9, w10, w11, w12, w13, w14, w15, w16, .int (nI 0), .int (nI 0), w19, w20, w21, w22, w23, w24, w25, w26, w27, w28, w29, w30, w31, w32, w33]))] H := hP
  have hD : va_D A [(h0, .inr (11, [w0, w1, w2, w3, w4, w5, w6, w7, w8, w9, w10, w11, w12, w13, w14, w15, w16, .int (nI 0), .int (nI 0), w19, w20, w21, w22, w23, w24, w25, w26, w27, w28, w29, w30, w31, w32, w33]))] := hD
  have hP9 := hP.sub (ws' := [(h0, .inr (11, [w0, w1, w2, w3, w4, w5, w6, w7, w8, w9, w10, w11, w12, w13, w14, w15, w16, .int (nI 0), .int (nI 0), w19, w20, w21, w22, w23, w24, w25, w26, w27, w28, w29, w30, w31, w32, w33]))]) [0] rfl
  have hD9 := hD.sub (ws' := [(h0, .inr (11, [w0, w1, w2, w3, w4, w5, w6, w7, w8, w9, w10, w11, w12, w13, w14, w15, w16, .int (nI 0), .int (nI 0), w19, w20, w21, w22, w23, w24, w25, w26, w27, w28, w29, w30, w31, w32, w33]))]) [0] (by decide) rfl
  have hK9 := hK.sub (tys' := []) [] rfl
  rw [hQg]
  exact W.vret hx hb hr (fun t ht hW => ⟨⟨(), rfl, trivial, by rw [ht]; exact hP9, va_K.moved hW.alike hK9, hD9⟩, hS.F ht⟩) hS.2.2 d_Mo_noSet_10

-- ThresholdBenchModel.isOf
set_option maxHeartbeats 4000000 in
set_option maxRecDepth 100000 in
theorem c_Mo_isOf (l : Launch) (dC : Nat → ClassId) (dI : Nat → Nat → Nat) (h0 : Nat) (p1 : Int32) (w0 : Value) (w1 : Value) (w2 : Value) (w3 : Value) (w4 : Value) (w5 : Value) (w6 : Value) (w7 : Value) (w8 : Value) (w9 : Value) (w10 : Value) (w11 : Value) (w12 : Value) (w13 : Value) (w14 : Value) (w16 : Value) (w17 : Value) (w18 : Value) (w19 : Value) (w20 : Value) (w21 : Value) (w22 : Value) (w23 : Value) (w24 : Value) (w25 : Value) (w26 : Value) (w27 : Value) (w28 : Value) (w29 : Value) (w30 : Value) (w31 : Value) (w32 : Value) (w33 : Value) (sz : Nat)  : Met l y_Mo_isOf (.code y_Mo_isOf prog_14_method_64_code 2 (some .boolean) :: AW) ({ frames := 0, cells := 0, slots := 0, locals := 0 } : Room) (va_Pc [.ref h0, .int p1] (pw (dC, dI) CL [(h0, .inr (11, [w0, w1, w2, w3, w4, w5, w6, w7, w8, w9, w10, w11, w12, w13, w14, .int (nI 0), w16, w17, w18, w19, w20, w21, w22, w23, w24, w25, w26, w27, w28, w29, w30, w31, w32, w33]))] [] sz)) (va_Qi (fun (r : Int32) (u : Unit) => r = nI 0) (fun (u : Unit) t => qw (dC, dI) CL (va_A [(h0, .inr (11, [w0, w1, w2, w3, w4, w5, w6, w7, w8, w9, w10, w11, w12, w13, w14, .int (nI 0), w16, w17, w18, w19, w20, w21, w22, w23, w24, w25, w26, w27, w28, w29, w30, w31, w32, w33]))] sz) ((fun _ : Unit => [(h0, .inr (11, [w0, w1, w2, w3, w4, w5, w6, w7, w8, w9, w10, w11, w12, w13, w14, .int (nI 0), w16, w17, w18, w19, w20, w21, w22, w23, w24, w25, w26, w27, w28, w29, w30, w31, w32, w33]))]) u) ((fun _ : Unit => []) u) t) (va_A [(h0, .inr (11, [w0, w1, w2, w3, w4, w5, w6, w7, w8, w9, w10, w11, w12, w13, w14, .int (nI 0), w16, w17, w18, w19, w20, w21, w22, w23, w24, w25, w26, w27, w28, w29, w30, w31, w32, w33]))] sz)) 0 0 (va_A [(h0, .inr (11, [w0, w1, w2, w3, w4, w5, w6, w7, w8, w9, w10, w11, w12, w13, w14, .int (nI 0), w16, w17, w18, w19, w20, w21, w22, w23, w24, w25, w26, w27, w28, w29, w30, w31, w32, w33]))] sz) := by
  refine Met.ofW (cc := prog_14_method_64_code) (maxL := 2) (ret := (some .boolean)) (by decide) rfl ?_
  intro p e s m args below meth c s₁ B hml hv
  obtain ⟨rfl, hsz, hP, hK, hD0, hZ, hN⟩ := hv
  have hx := B.exec
  have hb := B.bytes
  have hr := B.returns
  have hts := kw (atoms_spec (ws := .code y_Mo_isOf prog_14_method_64_code 2 (some .boolean) :: AW) B.pre)
  have hown : s.vm.findClass R_Mo = some m.cls := findClass_of_methodNamed B.named
  have hlocks := B.notSynchronized
  subst hsz
  have hD := hD0.self (sz := s.heap.size)
  obtain ⟨Qg, hQg⟩ : ∃ q, q = MQ below (va_Qi (fun (r : Int32) (u : Unit) => r = nI 0) (fun (u : Unit) t => qw (dC, dI) CL (va_A [(h0, .inr (11, [w0, w1, w2, w3, w4, w5, w6, w7, w8, w9, w10, w11, w12, w13, w14, .int (nI 0), w16, w17, w18, w19, w20, w21, w22, w23, w24, w25, w26, w27, w28, w29, w30, w31, w32, w33]))] s.heap.size) ((fun _ : Unit => [(h0, .inr (11, [w0, w1, w2, w3, w4, w5, w6, w7, w8, w9, w10, w11, w12, w13, w14, .int (nI 0), w16, w17, w18, w19, w20, w21, w22, w23, w24, w25, w26, w27, w28, w29, w30, w31, w32, w33]))]) u) ((fun _ : Unit => []) u) t) (va_A [(h0, .inr (11, [w0, w1, w2, w3, w4, w5, w6, w7, w8, w9, w10, w11, w12, w13, w14, .int (nI 0), w16, w17, w18, w19, w20, w21, w22, w23, w24, w25, w26, w27, w28, w29, w30, w31, w32, w33]))] s.heap.size)) ([.ref h0, .int p1] : List Value).toArray s 0 0 (va_A [(h0, .inr (11, [w0, w1, w2, w3, w4, w5, w6, w7, w8, w9, w10, w11, w12, w13, w14, .int (nI 0), w16, w17, w18, w19, w20, w21, w22, w23, w24, w25, w26, w27, w28, w29, w30, w31, w32, w33]))] s.heap.size) := ⟨_, rfl⟩
  rw [← hQg]
  generalize hAe : va_A [(h0, .inr (11, [w0, w1, w2, w3, w4, w5, w6, w7, w8, w9, w10, w11, w12, w13, w14, .int (nI 0), w16, w17, w18, w19, w20, w21, w22, w23, w24, w25, w26, w27, w28, w29, w30, w31, w32, w33]))] s.heap.size = A at hD hZ hQg
  have hA : ∀ q : Nat, s.heap.size ≤ q → A q := fun q h => by rw [← hAe]; exact Or.inr h
  have hS : va_S A s.heap s.heap [] := va_S.rf
  have hP : va_P (dC, dI) CL [(h0, .inr (11, [w0, w1, w2, w3, w4, w5, w6, w7, w8, w9, w10, w11, w12, w13, w14, .int (nI 0), w16, w17, w18, w19, w20, w21, w22, w23, w24, w25, w26, w27, w28, w29, w30, w31, w32, w33]))] s.heap := hP
  have hl := lv_entry ([.ref h0, .int p1]) (n := 2) (Nat.le_of_ble_eq_true rfl)
  rw [lg_entry_eq]
  generalize (lg_sl ([.ref h0, .int p1]) ++ List.replicate (2 - (lg_sl ([.ref h0, .int p1])).length) Slot.unset).toArray = ls at hl ⊢
  have hl : lv_has ls 2 [(0, .ref h0), (1, .int p1)] := hl
  show W p l e ({ frames := 0, cells := 0, slots := 0, locals := 0 } : Room) s m ([.ref h0, .int p1] : List Value).toArray below meth c s.heap [] 0 0 Qg (F0 m 0 ls [])
  refine lv_iload_n hx hb d_Mo_isOf_0 rfl (lv_at hl 1 rfl) ?_
  refine lv_iconst (v := (nI 1)) hx hb d_Mo_isOf_1 (by decide +kernel) ?_
  refine lv_icmp_lt (tgt := 17) hx hb d_Mo_isOf_2 (by decide) (fun c2 => ?_) (fun c2 => ?_)
  · refine lv_iconst (v := (nI 0)) hx hb d_Mo_isOf_17 (by decide +kernel) ?_
    have hP9 := hP.sub (ws' := [(h0, .inr (11, [w0, w1, w2, w3, w4, w5, w6, w7, w8, w9, w10, w11, w12, w13, w14, .int (nI 0), w16, w17, w18, w19, w20, w21, w22, w23, w24, w25, w26, w27, w28, w29, w30, w31, w32, w33]))]) [0] rfl
    have hD9 := hD.sub (ws' := [(h0, .inr (11, [w0, w1, w2, w3, w4, w5, w6, w7, w8, w9, w10, w11, w12, w13, w14, .int (nI 0), w16, w17, w18, w19, w20, w21, w22, w23, w24, w25, w26, w27, w28, w29, w30, w31, w32, w33]))]) [0] (by decide) rfl
    have hK9 := hK.sub (tys' := []) [] rfl
    rw [hQg]
    exact W.zret (v := (nI 0)) hx hb hr rfl (fun t ht hW => ⟨⟨(nI 0), (), rfl, rfl, by rw [ht]; exact hP9, va_K.moved hW.alike hK9, hD9⟩, hS.F ht⟩) hS.2.2 d_Mo_isOf_18
  · refine lv_iload_n hx hb d_Mo_isOf_5 rfl (lv_at hl 1 rfl) ?_
    refine lv_aload_n hx hb d_Mo_isOf_6 rfl (lv_at hl 0 rfl) ?_
    refine va_get (D := (dC, dI)) (ci := 11) (v := .int (nI 0)) (C := R_Mo) (T := F_Mo) (N := 34) hx hb hts i_Mo hown hK hP 0 rfl rfl 15 (by decide) (hts _ m_258) (fun _ h9 => h9) rfl d_Mo_isOf_7 ?_
    refine lv_icmp_gt (tgt := 17) hx hb d_Mo_isOf_10 (by decide) (fun c10 => ?_) (fun c10 => absurd (k_one c2) c10)
    refine lv_iconst (v := (nI 0)) hx hb d_Mo_isOf_17 (by decide +kernel) ?_
    have hP9 := hP.sub (ws' := [(h0, .inr (11, [w0, w1, w2, w3, w4, w5, w6, w7, w8, w9, w10, w11, w12, w13, w14, .int (nI 0), w16, w17, w18, w19, w20, w21, w22, w23, w24, w25, w26, w27, w28, w29, w30, w31, w32, w33]))]) [0] rfl
    have hD9 := hD.sub (ws' := [(h0, .inr (11, [w0, w1, w2, w3, w4, w5, w6, w7, w8, w9, w10, w11, w12, w13, w14, .int (nI 0), w16, w17, w18, w19, w20, w21, w22, w23, w24, w25, w26, w27, w28, w29, w30, w31, w32, w33]))]) [0] (by decide) rfl
    have hK9 := hK.sub (tys' := []) [] rfl
    rw [hQg]
    exact W.zret (v := (nI 0)) hx hb hr rfl (fun t ht hW => ⟨⟨(nI 0), (), rfl, rfl, by rw [ht]; exact hP9, va_K.moved hW.alike hK9, hD9⟩, hS.F ht⟩) hS.2.2 d_Mo_isOf_18

-- ThresholdBenchModel.none
set_option maxHeartbeats 4000000 in
set_option maxRecDepth 100000 in
theorem c_Mo_none (l : Launch) (dC : Nat → ClassId) (dI : Nat → Nat → Nat) (h0 : Nat) (p1 : Int32) (w0 : Value) (w1 : Value) (w2 : Value) (w3 : Value) (w4 : Value) (w5 : Value) (w6 : Value) (w7 : Value) (w9 : Value) (w10 : Value) (w11 : Value) (w12 : Value) (w13 : Value) (w14 : Value) (w16 : Value) (w17 : Value) (w18 : Value) (w19 : Value) (w20 : Value) (w21 : Value) (w22 : Value) (w23 : Value) (w24 : Value) (w25 : Value) (w26 : Value) (w27 : Value) (w28 : Value) (w29 : Value) (w30 : Value) (w31 : Value) (w32 : Value) (w33 : Value) (sz : Nat)  : Met l y_Mo_none (.code y_Mo_none prog_14_method_42_code 2 (some .boolean) :: AW) ({ frames := 1, cells := 0, slots := 0, locals := 22 } : Room) (va_Pc [.ref h0, .int p1] (pw (dC, dI) CL [(h0, .inr (11, [w0, w1, w2, w3, w4, w5, w6, w7, .int (nI 0), w9, w10, w11, w12, w13, w14, .int (nI 0), w16, w17, w18, w19, w20, w21, w22, w23, w24, w25, w26, w27, w28, w29, w30, w31, w32, w33]))] [] sz)) (va_Qi (fun (r : Int32) (u : Unit) => r = nI 1) (fun (u : Unit) t => qw (dC, dI) CL (va_A [(h0, .inr (11, [w0, w1, w2, w3, w4, w5, w6, w7, .int (nI 0), w9, w10, w11, w12, w13, w14, .int (nI 0), w16, w17, w18, w19, w20, w21, w22, w23, w24, w25, w26, w27, w28, w29, w30, w31, w32, w33]))] sz) ((fun _ : Unit => [(h0, .inr (11, [w0, w1, w2, w3, w4, w5, w6, w7, .int (nI 1), w9, w10, w11, w12, w13, w14, .int (nI 0), w16, w17, w18, w19, w20, w21, w22, w23, w24, w25, w26, w27, w28, w29, w30, w31, w32, w33]))]) u) ((fun _ : Unit => []) u) t) (va_A [(h0, .inr (11, [w0, w1, w2, w3, w4, w5, w6, w7, .int (nI 0), w9, w10, w11, w12, w13, w14, .int (nI 0), w16, w17, w18, w19, w20, w21, w22, w23, w24, w25, w26, w27, w28, w29, w30, w31, w32, w33]))] sz)) 0 0 (va_A [(h0, .inr (11, [w0, w1, w2, w3, w4, w5, w6, w7, .int (nI 0), w9, w10, w11, w12, w13, w14, .int (nI 0), w16, w17, w18, w19, w20, w21, w22, w23, w24, w25, w26, w27, w28, w29, w30, w31, w32, w33]))] sz) := by
  refine Met.ofW (cc := prog_14_method_42_code) (maxL := 2) (ret := (some .boolean)) (by decide) rfl ?_
  intro p e s m args below meth c s₁ B hml hv
  obtain ⟨rfl, hsz, hP, hK, hD0, hZ, hN⟩ := hv
  have hx := B.exec
  have hb := B.bytes
  have hr := B.returns
  have hts := kw (atoms_spec (ws := .code y_Mo_none prog_14_method_42_code 2 (some .boolean) :: AW) B.pre)
  have hown : s.vm.findClass R_Mo = some m.cls := findClass_of_methodNamed B.named
  have hlocks := B.notSynchronized
  subst hsz
  have hD := hD0.self (sz := s.heap.size)
  obtain ⟨Qg, hQg⟩ : ∃ q, q = MQ below (va_Qi (fun (r : Int32) (u : Unit) => r = nI 1) (fun (u : Unit) t => qw (dC, dI) CL (va_A [(h0, .inr (11, [w0, w1, w2, w3, w4, w5, w6, w7, .int (nI 0), w9, w10, w11, w12, w13, w14, .int (nI 0), w16, w17, w18, w19, w20, w21, w22, w23, w24, w25, w26, w27, w28, w29, w30, w31, w32, w33]))] s.heap.size) ((fun _ : Unit => [(h0, .inr (11, [w0, w1, w2, w3, w4, w5, w6, w7, .int (nI 1), w9, w10, w11, w12, w13, w14, .int (nI 0), w16, w17, w18, w19, w20, w21, w22, w23, w24, w25, w26, w27, w28, w29, w30, w31, w32, w33]))]) u) ((fun _ : Unit => []) u) t) (va_A [(h0, .inr (11, [w0, w1, w2, w3, w4, w5, w6, w7, .int (nI 0), w9, w10, w11, w12, w13, w14, .int (nI 0), w16, w17, w18, w19, w20, w21, w22, w23, w24, w25, w26, w27, w28, w29, w30, w31, w32, w33]))] s.heap.size)) ([.ref h0, .int p1] : List Value).toArray s 0 0 (va_A [(h0, .inr (11, [w0, w1, w2, w3, w4, w5, w6, w7, .int (nI 0), w9, w10, w11, w12, w13, w14, .int (nI 0), w16, w17, w18, w19, w20, w21, w22, w23, w24, w25, w26, w27, w28, w29, w30, w31, w32, w33]))] s.heap.size) := ⟨_, rfl⟩
  rw [← hQg]
  generalize hAe : va_A [(h0, .inr (11, [w0, w1, w2, w3, w4, w5, w6, w7, .int (nI 0), w9, w10, w11, w12, w13, w14, .int (nI 0), w16, w17, w18, w19, w20, w21, w22, w23, w24, w25, w26, w27, w28, w29, w30, w31, w32, w33]))] s.heap.size = A at hD hZ hQg
  have hA : ∀ q : Nat, s.heap.size ≤ q → A q := fun q h => by rw [← hAe]; exact Or.inr h
  have hS : va_S A s.heap s.heap [] := va_S.rf
  have hP : va_P (dC, dI) CL [(h0, .inr (11, [w0, w1, w2, w3, w4, w5, w6, w7, .int (nI 0), w9, w10, w11, w12, w13, w14, .int (nI 0), w16, w17, w18, w19, w20, w21, w22, w23, w24, w25, w26, w27, w28, w29, w30, w31, w32, w33]))] s.heap := hP
  have hl := lv_entry ([.ref h0, .int p1]) (n := 2) (Nat.le_of_ble_eq_true rfl)
  rw [lg_entry_eq]
  generalize (lg_sl ([.ref h0, .int p1]) ++ List.replicate (2 - (lg_sl ([.ref h0, .int p1])).length) Slot.unset).toArray = ls at hl ⊢
  have hl : lv_has ls 2 [(0, .ref h0), (1, .int p1)] := hl
  show W p l e ({ frames := 1, cells := 0, slots := 0, locals := 22 } : Room) s m ([.ref h0, .int p1] : List Value).toArray below meth c s.heap [] 0 0 Qg (F0 m 0 ls [])
  refine lv_aload_n hx hb d_Mo_none_0 rfl (lv_at hl 0 rfl) ?_
  refine lv_aload_n hx hb d_Mo_none_1 rfl (lv_at hl 0 rfl) ?_
  refine va_get (D := (dC, dI)) (ci := 11) (v := .int (nI 0)) (C := R_Mo) (T := F_Mo) (N := 34) hx hb hts i_Mo hown hK hP 0 rfl rfl 15 (by decide) (hts _ m_258) (fun _ h9 => h9) rfl d_Mo_none_2 ?_
  refine lv_if_ne (tgt := 12) hx hb d_Mo_none_5 (by decide) (fun c5 => absurd (by decide) c5) (fun c5 => ?_)
  refine lv_iconst (v := (nI 1)) hx hb d_Mo_none_8 (by decide +kernel) ?_
  refine lv_goto (tgt := 13) hx hb d_Mo_none_9 (by decide) ?_
  refine lv_iconst (v := (nI 1)) hx hb d_Mo_none_13 (by decide +kernel) ?_
  refine k_fini (wr := []) [0] [] (k_runV (n := 2) (As := [.int (nI 1), .int (nI 1)]) (rest := []) (wc := [(h0, .inr (11, [w0, w1, w2, w3, w4, w5, w6, w7, .int (nI 0), w9, w10, w11, w12, w13, w14, .int (nI 0), w16, w17, w18, w19, w20, w21, w22, w23, w24, w25, w26, w27, w28, w29, w30, w31, w32, w33]))]) ⟨hx, hb, hml, hown, hts⟩ (c_Mo_fails1 l dC dI h0 w0 w1 w2 w3 w4 w5 w6 w7 w9 w10 w11 w12 w13 w14 (.int (nI 0)) w16 w17 w18 w19 w20 w21 w22 w23 w24 w25 w26 w27 w28 w29 w30 w31 w32 w33 _ ) (kg_V m_260 m_261 m_262 m_263 (kg_code m_259)) (by decide +kernel) rfl rfl ⟨Nat.le_of_ble_eq_true rfl, Nat.le_of_ble_eq_true rfl⟩ [0] [] hP hD hK hS hA hZ hN (by rfl) (by decide) (by rfl) rfl rfl rfl rfl hl.1 rfl (Nat.le_of_ble_eq_true rfl) d_Mo_none_14 ⟨(Nat.le_of_ble_eq_true rfl), (Nat.le_of_ble_eq_true rfl)⟩) hP hD hK hS hA (by rfl) (by rfl) (by decide) (by decide) (fun r_1 u9 H locs hw_2 hP hD hK hS => ?_)
  try dsimp only at hw_2
  have hP : va_P (dC, dI) CL [(h0, .inr (11, [w0, w1, w2, w3, w4, w5, w6, w7, .int (nI 1), w9, w10, w11, w12, w13, w14, .int (nI 0), w16, w17, w18, w19, w20, w21, w22, w23, w24, w25, w26, w27, w28, w29, w30, w31, w32, w33]))] H := hP
  have hD : va_D A [(h0, .inr (11, [w0, w1, w2, w3, w4, w5, w6, w7, .int (nI 1), w9, w10, w11, w12, w13, w14, .int (nI 0), w16, w17, w18, w19, w20, w21, w22, w23, w24, w25, w26, w27, w28, w29, w30, w31, w32, w33]))] := hD
  have hK : va_K (dC, dI) CL [] s := hK
  subst hw_2
  refine lv_if_ne (tgt := 46) hx hb d_Mo_none_17 (by decide) (fun c17 => ?_) (fun c17 => absurd c17 (by decide))
  refine lv_iconst (v := (nI 1)) hx hb d_Mo_none_46 (by decide +kernel) ?_
  refine lv_goto (tgt := 51) hx hb d_Mo_none_47 (by decide) ?_
  have hP9 := hP.sub (ws' := [(h0, .inr (11, [w0, w1, w2, w3, w4, w5, w6, w7, .int (nI 1), w9, w10, w11, w12, w13, w14, .int (nI 0), w16, w17, w18, w19, w20, w21, w22, w23, w24, w25, w26, w27, w28, w29, w30, w31, w32, w33]))]) [0] rfl
  have hD9 := hD.sub (ws' := [(h0, .inr (11, [w0, w1, w2, w3, w4, w5, w6, w7, .int (nI 1), w9, w10, w11, w12, w13, w14, .int (nI 0), w16, w17, w18, w19, w20, w21, w22, w23, w24, w25, w26, w27, w28, w29, w30, w31, w32, w33]))]) [0] (by decide) rfl
  have hK9 := hK.sub (tys' := []) [] rfl
  rw [hQg]
  exact W.zret (v := (nI 1)) hx hb hr rfl (fun t ht hW => ⟨⟨(nI 1), (), rfl, rfl, by rw [ht]; exact hP9, va_K.moved hW.alike hK9, hD9⟩, hS.F ht⟩) hS.2.2 d_Mo_none_51

-- ThresholdBenchModel.noGiver
set_option maxHeartbeats 4000000 in
set_option maxRecDepth 100000 in
theorem c_Mo_noGiver (l : Launch) (dC : Nat → ClassId) (dI : Nat → Nat → Nat) (h0 : Nat) (p1 : Int32) (w0 : Value) (w1 : Value) (w2 : Value) (w3 : Value) (w4 : Value) (w5 : Value) (w6 : Value) (w7 : Value) (w9 : Value) (w10 : Value) (w11 : Value) (w12 : Value) (w13 : Value) (w14 : Value) (w15 : Value) (w16 : Value) (w18 : Value) (w19 : Value) (w20 : Value) (w21 : Value) (w22 : Value) (w23 : Value) (w24 : Value) (w25 : Value) (w26 : Value) (w27 : Value) (w28 : Value) (w29 : Value) (w30 : Value) (w31 : Value) (w32 : Value) (w33 : Value) (sz : Nat)  : Met l y_Mo_noGiver (.code y_Mo_noGiver prog_14_method_55_code 2 (some .boolean) :: AW) ({ frames := 1, cells := 0, slots := 0, locals := 22 } : Room) (va_Pc [.ref h0, .int p1] (pw (dC, dI) CL [(h0, .inr (11, [w0, w1, w2, w3, w4, w5, w6, w7, .int (nI 0), w9, w10, w11, w12, w13, w14, w15, w16, .int (nI 0), w18, w19, w20, w21, w22, w23, w24, w25, w26, w27, w28, w29, w30, w31, w32, w33]))] [] sz)) (va_Qi (fun (r : Int32) (u : Unit) => r = nI 1) (fun (u : Unit) t => qw (dC, dI) CL (va_A [(h0, .inr (11, [w0, w1, w2, w3, w4, w5, w6, w7, .int (nI 0), w9, w10, w11, w12, w13, w14, w15, w16, .int (nI 0), w18, w19, w20, w21, w22, w23, w24, w25, w26, w27, w28, w29, w30, w31, w32, w33]))] sz) ((fun _ : Unit => [(h0, .inr (11, [w0, w1, w2, w3, w4, w5, w6, w7, .int (nI 1), w9, w10, w11, w12, w13, w14, w15, w16, .int (nI 0), w18, w19, w20, w21, w22, w23, w24, w25, w26, w27, w28, w29, w30, w31, w32, w33]))]) u) ((fun _ : Unit => []) u) t) (va_A [(h0, .inr (11, [w0, w1, w2, w3, w4, w5, w6, w7, .int (nI 0), w9, w10, w11, w12, w13, w14, w15, w16, .int (nI 0), w18, w19, w20, w21, w22, w23, w24, w25, w26, w27, w28, w29, w30, w31, w32, w33]))] sz)) 0 0 (va_A [(h0, .inr (11, [w0, w1, w2, w3, w4, w5, w6, w7, .int (nI 0), w9, w10, w11, w12, w13, w14, w15, w16, .int (nI 0), w18, w19, w20, w21, w22, w23, w24, w25, w26, w27, w28, w29, w30, w31, w32, w33]))] sz) := by
  refine Met.ofW (cc := prog_14_method_55_code) (maxL := 2) (ret := (some .boolean)) (by decide) rfl ?_
  intro p e s m args below meth c s₁ B hml hv
  obtain ⟨rfl, hsz, hP, hK, hD0, hZ, hN⟩ := hv
  have hx := B.exec
  have hb := B.bytes
  have hr := B.returns
  have hts := kw (atoms_spec (ws := .code y_Mo_noGiver prog_14_method_55_code 2 (some .boolean) :: AW) B.pre)
  have hown : s.vm.findClass R_Mo = some m.cls := findClass_of_methodNamed B.named
  have hlocks := B.notSynchronized
  subst hsz
  have hD := hD0.self (sz := s.heap.size)
  obtain ⟨Qg, hQg⟩ : ∃ q, q = MQ below (va_Qi (fun (r : Int32) (u : Unit) => r = nI 1) (fun (u : Unit) t => qw (dC, dI) CL (va_A [(h0, .inr (11, [w0, w1, w2, w3, w4, w5, w6, w7, .int (nI 0), w9, w10, w11, w12, w13, w14, w15, w16, .int (nI 0), w18, w19, w20, w21, w22, w23, w24, w25, w26, w27, w28, w29, w30, w31, w32, w33]))] s.heap.size) ((fun _ : Unit => [(h0, .inr (11, [w0, w1, w2, w3, w4, w5, w6, w7, .int (nI 1), w9, w10, w11, w12, w13, w14, w15, w16, .int (nI 0), w18, w19, w20, w21, w22, w23, w24, w25, w26, w27, w28, w29, w30, w31, w32, w33]))]) u) ((fun _ : Unit => []) u) t) (va_A [(h0, .inr (11, [w0, w1, w2, w3, w4, w5, w6, w7, .int (nI 0), w9, w10, w11, w12, w13, w14, w15, w16, .int (nI 0), w18, w19, w20, w21, w22, w23, w24, w25, w26, w27, w28, w29, w30, w31, w32, w33]))] s.heap.size)) ([.ref h0, .int p1] : List Value).toArray s 0 0 (va_A [(h0, .inr (11, [w0, w1, w2, w3, w4, w5, w6, w7, .int (nI 0), w9, w10, w11, w12, w13, w14, w15, w16, .int (nI 0), w18, w19, w20, w21, w22, w23, w24, w25, w26, w27, w28, w29, w30, w31, w32, w33]))] s.heap.size) := ⟨_, rfl⟩
  rw [← hQg]
  generalize hAe : va_A [(h0, .inr (11, [w0, w1, w2, w3, w4, w5, w6, w7, .int (nI 0), w9, w10, w11, w12, w13, w14, w15, w16, .int (nI 0), w18, w19, w20, w21, w22, w23, w24, w25, w26, w27, w28, w29, w30, w31, w32, w33]))] s.heap.size = A at hD hZ hQg
  have hA : ∀ q : Nat, s.heap.size ≤ q → A q := fun q h => by rw [← hAe]; exact Or.inr h
  have hS : va_S A s.heap s.heap [] := va_S.rf
  have hP : va_P (dC, dI) CL [(h0, .inr (11, [w0, w1, w2, w3, w4, w5, w6, w7, .int (nI 0), w9, w10, w11, w12, w13, w14, w15, w16, .int (nI 0), w18, w19, w20, w21, w22, w23, w24, w25, w26, w27, w28, w29, w30, w31, w32, w33]))] s.heap := hP
  have hl := lv_entry ([.ref h0, .int p1]) (n := 2) (Nat.le_of_ble_eq_true rfl)
  rw [lg_entry_eq]
  generalize (lg_sl ([.ref h0, .int p1]) ++ List.replicate (2 - (lg_sl ([.ref h0, .int p1])).length) Slot.unset).toArray = ls at hl ⊢
  have hl : lv_has ls 2 [(0, .ref h0), (1, .int p1)] := hl
  show W p l e ({ frames := 1, cells := 0, slots := 0, locals := 22 } : Room) s m ([.ref h0, .int p1] : List Value).toArray below meth c s.heap [] 0 0 Qg (F0 m 0 ls [])
  refine lv_aload_n hx hb d_Mo_noGiver_0 rfl (lv_at hl 0 rfl) ?_
  refine lv_aload_n hx hb d_Mo_noGiver_1 rfl (lv_at hl 0 rfl) ?_
  refine va_get (D := (dC, dI)) (ci := 11) (v := .int (nI 0)) (C := R_Mo) (T := F_Mo) (N := 34) hx hb hts i_Mo hown hK hP 0 rfl rfl 17 (by decide) (hts _ m_256) (fun _ h9 => h9) rfl d_Mo_noGiver_2 ?_
  refine lv_if_ne (tgt := 12) hx hb d_Mo_noGiver_5 (by decide) (fun c5 => absurd (by decide) c5) (fun c5 => ?_)
  refine lv_iconst (v := (nI 1)) hx hb d_Mo_noGiver_8 (by decide +kernel) ?_
  refine lv_goto (tgt := 13) hx hb d_Mo_noGiver_9 (by decide) ?_
  refine lv_iconst (v := (nI 1)) hx hb d_Mo_noGiver_13 (by decide +kernel) ?_
  refine k_fini (wr := []) [0] [] (k_runV (n := 2) (As := [.int (nI 1), .int (nI 1)]) (rest := []) (wc := [(h0, .inr (11, [w0, w1, w2, w3, w4, w5, w6, w7, .int (nI 0), w9, w10, w11, w12, w13, w14, w15, w16, .int (nI 0), w18, w19, w20, w21, w22, w23, w24, w25, w26, w27, w28, w29, w30, w31, w32, w33]))]) ⟨hx, hb, hml, hown, hts⟩ (c_Mo_fails1 l dC dI h0 w0 w1 w2 w3 w4 w5 w6 w7 w9 w10 w11 w12 w13 w14 w15 w16 (.int (nI 0)) w18 w19 w20 w21 w22 w23 w24 w25 w26 w27 w28 w29 w30 w31 w32 w33 _ ) (kg_V m_260 m_261 m_262 m_263 (kg_code m_259)) (by decide +kernel) rfl rfl ⟨Nat.le_of_ble_eq_true rfl, Nat.le_of_ble_eq_true rfl⟩ [0] [] hP hD hK hS hA hZ hN (by rfl) (by decide) (by rfl) rfl rfl rfl rfl hl.1 rfl (Nat.le_of_ble_eq_true rfl) d_Mo_noGiver_14 ⟨(Nat.le_of_ble_eq_true rfl), (Nat.le_of_ble_eq_true rfl)⟩) hP hD hK hS hA (by rfl) (by rfl) (by decide) (by decide) (fun r_1 u9 H locs hw_2 hP hD hK hS => ?_)
  try dsimp only at hw_2
  have hP : va_P (dC, dI) CL [(h0, .inr (11, [w0, w1, w2, w3, w4, w5, w6, w7, .int (nI 1), w9, w10, w11, w12, w13, w14, w15, w16, .int (nI 0), w18, w19, w20, w21, w22, w23, w24, w25, w26, w27, w28, w29, w30, w31, w32, w33]))] H := hP
  have hD : va_D A [(h0, .inr (11, [w0, w1, w2, w3, w4, w5, w6, w7, .int (nI 1), w9, w10, w11, w12, w13, w14, w15, w16, .int (nI 0), w18, w19, w20, w21, w22, w23, w24, w25, w26, w27, w28, w29, w30, w31, w32, w33]))] := hD
  have hK : va_K (dC, dI) CL [] s := hK
  subst hw_2
  refine lv_if_ne (tgt := 83) hx hb d_Mo_noGiver_17 (by decide) (fun c17 => ?_) (fun c17 => absurd c17 (by decide))
  refine lv_iconst (v := (nI 1)) hx hb d_Mo_noGiver_83 (by decide +kernel) ?_
  refine lv_goto (tgt := 88) hx hb d_Mo_noGiver_84 (by decide) ?_
  have hP9 := hP.sub (ws' := [(h0, .inr (11, [w0, w1, w2, w3, w4, w5, w6, w7, .int (nI 1), w9, w10, w11, w12, w13, w14, w15, w16, .int (nI 0), w18, w19, w20, w21, w22, w23, w24, w25, w26, w27, w28, w29, w30, w31, w32, w33]))]) [0] rfl
  have hD9 := hD.sub (ws' := [(h0, .inr (11, [w0, w1, w2, w3, w4, w5, w6, w7, .int (nI 1), w9, w10, w11, w12, w13, w14, w15, w16, .int (nI 0), w18, w19, w20, w21, w22, w23, w24, w25, w26, w27, w28, w29, w30, w31, w32, w33]))]) [0] (by decide) rfl
  have hK9 := hK.sub (tys' := []) [] rfl
  rw [hQg]
  exact W.zret (v := (nI 1)) hx hb hr rfl (fun t ht hW => ⟨⟨(nI 1), (), rfl, rfl, by rw [ht]; exact hP9, va_K.moved hW.alike hK9, hD9⟩, hS.F ht⟩) hS.2.2 d_Mo_noGiver_88
