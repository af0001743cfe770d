-- ThresholdBenchModel.message
set_option maxHeartbeats 4000000 in
set_option maxRecDepth 100000 in
theorem c_Mo_message (l : Launch) (dC : Nat → ClassId) (dI : Nat → Nat → Nat) (h0 : Nat) (th : Int32) (a1 : Int32) (a2 : Int32) (a3 : Int32) (w0 : Value) (w1 : Value) (w2 : Value) (w3 : Value) (w4 : Value) (w5 : Value) (w6 : Value) (w7 : Value) (w9 : Value) (w10 : Value) (w11 : Value) (w12 : Value) (w13 : Value) (w14 : Value) (w15 : Value) (w16 : Value) (w19 : Value) (w20 : Value) (w21 : Value) (w22 : Value) (w23 : Value) (w24 : Value) (w25 : Value) (w26 : Value) (w27 : Value) (w28 : Value) (w29 : Value) (w32 : Value) (w33 : Value) (sz : Nat)  : Met l y_Mo_message (.code y_Mo_message prog_14_method_39_code 3 (some .int) :: AW) ({ frames := 1, cells := 0, slots := 0, locals := 22 } : Room) (va_Pc [.ref h0] (pw (dC, dI) CL [(h0, .inr (11, [w0, w1, w2, w3, w4, w5, w6, w7, .int th, w9, w10, w11, w12, w13, w14, w15, w16, .int a1, .int a2, w19, w20, w21, w22, w23, w24, w25, w26, w27, w28, w29, .int (nI 0), .int a3, w32, w33]))] [] sz)) (va_Qi (fun (r : Int32) (u : Unit) => r = nI 0) (fun (u : Unit) t => qw (dC, dI) CL (va_A [(h0, .inr (11, [w0, w1, w2, w3, w4, w5, w6, w7, .int th, w9, w10, w11, w12, w13, w14, w15, w16, .int a1, .int a2, w19, w20, w21, w22, w23, w24, w25, w26, w27, w28, w29, .int (nI 0), .int a3, w32, w33]))] sz) ((fun _ : Unit => [(h0, .inr (11, [w0, w1, w2, w3, w4, w5, w6, w7, .int (nI 0), w9, w10, w11, w12, w13, w14, w15, w16, .int (nI 0), .int (nI 0), w19, w20, w21, w22, w23, w24, w25, w26, w27, w28, w29, .int (nI 0), .int (nI 0), w32, w33]))]) u) ((fun _ : Unit => []) u) t) (va_A [(h0, .inr (11, [w0, w1, w2, w3, w4, w5, w6, w7, .int th, w9, w10, w11, w12, w13, w14, w15, w16, .int a1, .int a2, w19, w20, w21, w22, w23, w24, w25, w26, w27, w28, w29, .int (nI 0), .int a3, w32, w33]))] sz)) 0 0 (va_A [(h0, .inr (11, [w0, w1, w2, w3, w4, w5, w6, w7, .int th, w9, w10, w11, w12, w13, w14, w15, w16, .int a1, .int a2, w19, w20, w21, w22, w23, w24, w25, w26, w27, w28, w29, .int (nI 0), .int a3, w32, w33]))] sz) := by
  refine Met.ofW (cc := prog_14_method_39_code) (maxL := 3) (ret := (some .int)) (by decide) rfl ?_
  intro p e s m args below meth c s₁ B hml hv
  obtain ⟨rfl, hsz, hP, hK, hD0, hZ, hN⟩ := hv
  have hx := B.exec
  have hb := B.bytes
  have hr := B.returns
  have hts := kw (atoms_spec (ws := .code y_Mo_message prog_14_method_39_code 3 (some .int) :: AW) B.pre)
  have hown : s.vm.findClass R_Mo = some m.cls := findClass_of_methodNamed B.named
  have hlocks := B.notSynchronized
  subst hsz
  have hD := hD0.self (sz := s.heap.size)
  obtain ⟨Qg, hQg⟩ : ∃ q, q = MQ below (va_Qi (fun (r : Int32) (u : Unit) => r = nI 0) (fun (u : Unit) t => qw (dC, dI) CL (va_A [(h0, .inr (11, [w0, w1, w2, w3, w4, w5, w6, w7, .int th, w9, w10, w11, w12, w13, w14, w15, w16, .int a1, .int a2, w19, w20, w21, w22, w23, w24, w25, w26, w27, w28, w29, .int (nI 0), .int a3, w32, w33]))] s.heap.size) ((fun _ : Unit => [(h0, .inr (11, [w0, w1, w2, w3, w4, w5, w6, w7, .int (nI 0), w9, w10, w11, w12, w13, w14, w15, w16, .int (nI 0), .int (nI 0), w19, w20, w21, w22, w23, w24, w25, w26, w27, w28, w29, .int (nI 0), .int (nI 0), w32, w33]))]) u) ((fun _ : Unit => []) u) t) (va_A [(h0, .inr (11, [w0, w1, w2, w3, w4, w5, w6, w7, .int th, w9, w10, w11, w12, w13, w14, w15, w16, .int a1, .int a2, w19, w20, w21, w22, w23, w24, w25, w26, w27, w28, w29, .int (nI 0), .int a3, w32, w33]))] s.heap.size)) ([.ref h0] : List Value).toArray s 0 0 (va_A [(h0, .inr (11, [w0, w1, w2, w3, w4, w5, w6, w7, .int th, w9, w10, w11, w12, w13, w14, w15, w16, .int a1, .int a2, w19, w20, w21, w22, w23, w24, w25, w26, w27, w28, w29, .int (nI 0), .int a3, w32, w33]))] s.heap.size) := ⟨_, rfl⟩
  rw [← hQg]
  generalize hAe : va_A [(h0, .inr (11, [w0, w1, w2, w3, w4, w5, w6, w7, .int th, w9, w10, w11, w12, w13, w14, w15, w16, .int a1, .int a2, w19, w20, w21, w22, w23, w24, w25, w26, w27, w28, w29, .int (nI 0), .int a3, w32, w33]))] s.heap.size = A at hD hZ hQg
  have hA : ∀ q : Nat, s.heap.size ≤ q → A q := fun q h => by rw [← hAe]; exact Or.inr h
  have hS : va_S A s.heap s.heap [] := va_S.rf
  have hP : va_P (dC, dI) CL [(h0, .inr (11, [w0, w1, w2, w3, w4, w5, w6, w7, .int th, w9, w10, w11, w12, w13, w14, w15, w16, .int a1, .int a2, w19, w20, w21, w22, w23, w24, w25, w26, w27, w28, w29, .int (nI 0), .int a3, w32, w33]))] s.heap := hP
  have hl := lv_entry ([.ref h0]) (n := 3) (Nat.le_of_ble_eq_true rfl)
  rw [lg_entry_eq]
  generalize (lg_sl ([.ref h0]) ++ List.replicate (3 - (lg_sl ([.ref h0])).length) Slot.unset).toArray = ls at hl ⊢
  have hl : lv_has ls 3 [(0, .ref h0)] := hl
  show W p l e ({ frames := 1, cells := 0, slots := 0, locals := 22 } : Room) s m ([.ref h0] : List Value).toArray below meth c s.heap [] 0 0 Qg (F0 m 0 ls [])
  refine lv_aload_n hx hb d_Mo_message_0 rfl (lv_at hl 0 rfl) ?_
  refine k_fini (wr := []) [0] [] (k_runV (n := 0) (As := []) (rest := []) (wc := [(h0, .inr (11, [w0, w1, w2, w3, w4, w5, w6, w7, .int th, w9, w10, w11, w12, w13, w14, w15, w16, .int a1, .int a2, w19, w20, w21, w22, w23, w24, w25, w26, w27, w28, w29, .int (nI 0), .int a3, w32, w33]))]) ⟨hx, hb, hml, hown, hts⟩ (c_Mo_used l dC dI h0 th 0 w0 w1 w2 w3 w4 w5 w6 w7 w9 w10 w11 w12 w13 w14 w15 w16 (.int a1) (.int a2) w19 w20 w21 w22 w23 w24 w25 w26 w27 w28 w29 (.int a3) w32 w33 _ ) (kg_V m_265 m_266 m_267 m_263 (kg_code m_264)) (by decide +kernel) rfl rfl ⟨Nat.le_of_ble_eq_true rfl, Nat.le_of_ble_eq_true rfl⟩ [0] [] hP hD hK hS hA hZ hN (by rfl) (by decide) (by rfl) rfl rfl rfl rfl hl.1 rfl (Nat.le_of_ble_eq_true rfl) d_Mo_message_1 ⟨(Nat.le_of_ble_eq_true rfl), (Nat.le_of_ble_eq_true rfl)⟩) hP hD hK hS hA (by rfl) (by rfl) (by decide) (by decide) (fun r_1 u9 H locs hw_2 hP hD hK hS => ?_)
  try dsimp only at hw_2
  have hP : va_P (dC, dI) CL [(h0, .inr (11, [w0, w1, w2, w3, w4, w5, w6, w7, .int (nI 0), w9, w10, w11, w12, w13, w14, w15, w16, .int a1, .int a2, w19, w20, w21, w22, w23, w24, w25, w26, w27, w28, w29, .int (nI 0), .int a3, w32, w33]))] H := hP
  have hD : va_D A [(h0, .inr (11, [w0, w1, w2, w3, w4, w5, w6, w7, .int (nI 0), w9, w10, w11, w12, w13, w14, w15, w16, .int a1, .int a2, w19, w20, w21, w22, w23, w24, w25, w26, w27, w28, w29, .int (nI 0), .int a3, w32, w33]))] := hD
  have hK : va_K (dC, dI) CL [] s := hK
  subst hw_2
  refine lv_istore_n (lv' := [(1, .int (nI 0)), (0, .ref h0)]) hx hb d_Mo_message_4 rfl hl (by decide) rfl (fun ls hl => ?_)
  refine lv_aload_n hx hb d_Mo_message_5 rfl (lv_at hl 1 rfl) ?_
  refine lv_iload_n hx hb d_Mo_message_6 rfl (lv_at hl 0 rfl) ?_
  refine lv_bipush (v := (nI 100)) hx hb d_Mo_message_7 (by decide +kernel) ?_
  refine lv_icmp_le (tgt := 16) hx hb d_Mo_message_9 (by decide) (fun c9 => ?_) (fun c9 => absurd (by decide) c9)
  refine lv_iconst (v := (nI 0)) hx hb d_Mo_message_16 (by decide +kernel) ?_
  refine lv_iconst (v := (nI 1)) hx hb d_Mo_message_17 (by decide +kernel) ?_
  refine k_fini (wr := []) [0] [] (k_runV (n := 2) (As := [.int (nI 0), .int (nI 1)]) (rest := []) (wc := [(h0, .inr (11, [w0, w1, w2, w3, w4, w5, w6, w7, .int (nI 0), w9, w10, w11, w12, w13, w14, w15, w16, .int a1, .int a2, w19, w20, w21, w22, w23, w24, w25, w26, w27, w28, w29, .int (nI 0), .int a3, w32, w33]))]) ⟨hx, hb, hml, hown, hts⟩ (c_Mo_fails0 l dC dI h0 1 w0 w1 w2 w3 w4 w5 w6 w7 w9 w10 w11 w12 w13 w14 w15 w16 (.int a1) (.int a2) w19 w20 w21 w22 w23 w24 w25 w26 w27 w28 w29 (.int (nI 0)) (.int a3) w32 w33 _ ) (kg_V m_260 m_261 m_262 m_263 (kg_code m_259)) (by decide +kernel) rfl rfl ⟨Nat.le_of_ble_eq_true rfl, Nat.le_of_ble_eq_true rfl⟩ [0] [] hP hD hK hS hA hZ hN (by rfl) (by decide) (by rfl) rfl rfl rfl rfl hl.1 rfl (Nat.le_of_ble_eq_true rfl) d_Mo_message_18 ⟨(Nat.le_of_ble_eq_true rfl), (Nat.le_of_ble_eq_true rfl)⟩) hP hD hK hS hA (by rfl) (by rfl) (by decide) (by decide) (fun r_3 u9 H locs hw_4 hP hD hK hS => ?_)
  try dsimp only at hw_4
  have hP : va_P (dC, dI) CL [(h0, .inr (11, [w0, w1, w2, w3, w4, w5, w6, w7, .int (nI 0), w9, w10, w11, w12, w13, w14, w15, w16, .int a1, .int a2, w19, w20, w21, w22, w23, w24, w25, w26, w27, w28, w29, .int (nI 0), .int a3, w32, w33]))] H := hP
  have hD : va_D A [(h0, .inr (11, [w0, w1, w2, w3, w4, w5, w6, w7, .int (nI 0), w9, w10, w11, w12, w13, w14, w15, w16, .int a1, .int a2, w19, w20, w21, w22, w23, w24, w25, w26, w27, w28, w29, .int (nI 0), .int a3, w32, w33]))] := hD
  have hK : va_K (dC, dI) CL [] s := hK
  subst hw_4
  refine lv_if_eq (tgt := 26) hx hb d_Mo_message_21 (by decide) (fun c21 => ?_) (fun c21 => absurd (by decide) c21)
  refine lv_iconst (v := (nI 0)) hx hb d_Mo_message_26 (by decide +kernel) ?_
  refine lv_istore_n (lv' := [(2, .int (nI 0)), (1, .int (nI 0)), (0, .ref h0)]) hx hb d_Mo_message_27 rfl hl (by decide) rfl (fun ls hl => ?_)
  refine lv_iload_n hx hb d_Mo_message_28 rfl (lv_at hl 0 rfl) ?_
  refine lv_iload_n hx hb d_Mo_message_29 rfl (lv_at hl 1 rfl) ?_
  refine lv_icmp_ge (tgt := 51) hx hb d_Mo_message_30 (by decide) (fun c30 => ?_) (fun c30 => absurd (by decide) c30)
  refine lv_aload_n hx hb d_Mo_message_51 rfl (lv_at hl 2 rfl) ?_
  refine lv_iload_n hx hb d_Mo_message_52 rfl (lv_at hl 1 rfl) ?_
  refine va_put (D := (dC, dI)) (ci := 11) (v := .int (nI 0)) (ty := .int) (C := R_Mo) (T := F_Mo) (N := 34) hx hb hts i_Mo t_Mo t_Mo_ok n_Mo hown hK hP hD hS 0 rfl rfl 31 (by decide) (hts _ m_276) (fun _ h9 => h9) rfl (by decide +kernel) rfl rfl (Nat.le_of_ble_eq_true rfl) d_Mo_message_53 (fun H locs hP hD hS => ?_)
  have hP : va_P (dC, dI) CL [(h0, .inr (11, [w0, w1, w2, w3, w4, w5, w6, w7, .int (nI 0), w9, w10, w11, w12, w13, w14, w15, w16, .int a1, .int a2, w19, w20, w21, w22, w23, w24, w25, w26, w27, w28, w29, .int (nI 0), .int (nI 0), w32, w33]))] H := hP
  have hD : va_D A [(h0, .inr (11, [w0, w1, w2, w3, w4, w5, w6, w7, .int (nI 0), w9, w10, w11, w12, w13, w14, w15, w16, .int a1, .int a2, w19, w20, w21, w22, w23, w24, w25, w26, w27, w28, w29, .int (nI 0), .int (nI 0), w32, w33]))] := hD
  refine lv_aload_n hx hb d_Mo_message_56 rfl (lv_at hl 2 rfl) ?_
  refine k_finv (wr := []) [0] [] (k_runV (n := 0) (As := []) (rest := []) (wc := [(h0, .inr (11, [w0, w1, w2, w3, w4, w5, w6, w7, .int (nI 0), w9, w10, w11, w12, w13, w14, w15, w16, .int a1, .int a2, w19, w20, w21, w22, w23, w24, w25, w26, w27, w28, w29, .int (nI 0), .int (nI 0), w32, w33]))]) ⟨hx, hb, hml, hown, hts⟩ (c_Mo_noSet l dC dI h0 a1 a2 w0 w1 w2 w3 w4 w5 w6 w7 (.int (nI 0)) w9 w10 w11 w12 w13 w14 w15 w16 w19 w20 w21 w22 w23 w24 w25 w26 w27 w28 w29 (.int (nI 0)) (.int (nI 0)) w32 w33 _ ) (kg_V m_278 m_279 m_280 m_263 (kg_code m_277)) (by decide +kernel) rfl rfl ⟨Nat.le_of_ble_eq_true rfl, Nat.le_of_ble_eq_true rfl⟩ [0] [] hP hD hK hS hA hZ hN (by rfl) (by decide) (by rfl) rfl rfl rfl rfl hl.1 rfl (Nat.le_of_ble_eq_true rfl) d_Mo_message_57 ⟨(Nat.le_of_ble_eq_true rfl), (Nat.le_of_ble_eq_true rfl)⟩) hP hD hK hS hA (by rfl) (by rfl) (by decide) (by decide) (fun u9 H locs hw_6 hP hD hK hS => ?_)
  try dsimp only at hw_6
  have hP : va_P (dC, dI) CL [(h0, .inr (11, [w0, w1, w2, w3, w4, w5, w6, w7, .int (nI 0), w9, w10, w11, w12, w13, w14, w15, w16, .int (nI 0), .int (nI 0), w19, w20, w21, w22, w23, w24, w25, w26, w27, w28, w29, .int (nI 0), .int (nI 0), w32, w33]))] H := hP
  have hD : va_D A [(h0, .inr (11, [w0, w1, w2, w3, w4, w5, w6, w7, .int (nI 0), w9, w10, w11, w12, w13, w14, w15, w16, .int (nI 0), .int (nI 0), w19, w20, w21, w22, w23, w24, w25, w26, w27, w28, w29, .int (nI 0), .int (nI 0), w32, w33]))] := hD
  have hK : va_K (dC, dI) CL [] s := hK
  refine lv_iload_n hx hb d_Mo_message_60 rfl (lv_at hl 1 rfl) ?_
  have hP9 := hP.sub (ws' := [(h0, .inr (11, [w0, w1, w2, w3, w4, w5, w6, w7, .int (nI 0), w9, w10, w11, w12, w13, w14, w15, w16, .int (nI 0), .int (nI 0), w19, w20, w21, w22, w23, w24, w25, w26, w27, w28, w29, .int (nI 0), .int (nI 0), w32, w33]))]) [0] rfl
  have hD9 := hD.sub (ws' := [(h0, .inr (11, [w0, w1, w2, w3, w4, w5, w6, w7, .int (nI 0), w9, w10, w11, w12, w13, w14, w15, w16, .int (nI 0), .int (nI 0), w19, w20, w21, w22, w23, w24, w25, w26, w27, w28, w29, .int (nI 0), .int (nI 0), w32, w33]))]) [0] (by decide) rfl
  have hK9 := hK.sub (tys' := []) [] rfl
  rw [hQg]
  exact W.iret (v := (nI 0)) hx hb hr (fun t ht hW => ⟨⟨(nI 0), (), rfl, rfl, by rw [ht]; exact hP9, va_K.moved hW.alike hK9, hD9⟩, hS.F ht⟩) hS.2.2 d_Mo_message_61

-- ThresholdBenchModel.feed
set_option maxHeartbeats 4000000 in
set_option maxRecDepth 100000 in
theorem c_Mo_feed (l : Launch) (dC : Nat → ClassId) (dI : Nat → Nat → Nat) (h0 : Nat) (th : Int32) (tp : Nat) (kt : ClassId) (f : Nat → Int32) (p1 : Int32) (p2 : Int32) (p3 : Int32) (p4 : Int32) (p5 : Int32) (p6 : Int32) (w0 : Value) (w1 : Value) (w2 : Value) (w3 : Value) (w4 : Value) (w5 : Value) (w6 : Value) (w7 : Value) (w9 : Value) (w10 : Value) (w11 : Value) (w12 : Value) (w13 : Value) (w14 : Value) (w15 : Value) (w16 : Value) (w17 : Value) (w18 : Value) (w19 : Value) (w21 : Value) (w22 : Value) (w23 : Value) (w24 : Value) (w25 : Value) (w26 : Value) (w27 : Value) (w28 : Value) (w29 : Value) (w31 : Value) (w32 : Value) (w33 : Value) (sz : Nat)  : Met l y_Mo_feed (.code y_Mo_feed prog_14_method_36_code 9 (some .int) :: AW) ({ frames := 0, cells := 0, slots := 0, locals := 0 } : Room) (va_Pc [.ref h0, .int p1, .int p2, .int p3, .int p4, .int p5, .int p6] (pw (dC, dI) CL [(h0, .inr (11, [w0, w1, w2, w3, w4, w5, w6, w7, .int th, w9, w10, w11, w12, w13, w14, w15, w16, w17, w18, w19, .ref tp, w21, w22, w23, w24, w25, w26, w27, w28, w29, .int (nI 0), w31, w32, w33])), (tp, .inl (kt, 300, .inl f))] [(kt, .byte)] sz)) (va_Qi (fun (r : Int32) (u : Unit) => r = kf p1) (fun (u : Unit) t => qw (dC, dI) CL (va_A [(h0, .inr (11, [w0, w1, w2, w3, w4, w5, w6, w7, .int th, w9, w10, w11, w12, w13, w14, w15, w16, w17, w18, w19, .ref tp, w21, w22, w23, w24, w25, w26, w27, w28, w29, .int (nI 0), w31, w32, w33])), (tp, .inl (kt, 300, .inl f))] sz) ((fun _ : Unit => []) u) ((fun _ : Unit => []) u) t) (va_A [(h0, .inr (11, [w0, w1, w2, w3, w4, w5, w6, w7, .int th, w9, w10, w11, w12, w13, w14, w15, w16, w17, w18, w19, .ref tp, w21, w22, w23, w24, w25, w26, w27, w28, w29, .int (nI 0), w31, w32, w33])), (tp, .inl (kt, 300, .inl f))] sz)) 0 0 (va_A [(h0, .inr (11, [w0, w1, w2, w3, w4, w5, w6, w7, .int th, w9, w10, w11, w12, w13, w14, w15, w16, w17, w18, w19, .ref tp, w21, w22, w23, w24, w25, w26, w27, w28, w29, .int (nI 0), w31, w32, w33])), (tp, .inl (kt, 300, .inl f))] sz) := by
  refine Met.ofW (cc := prog_14_method_36_code) (maxL := 9) (ret := (some .int)) (by decide) rfl ?_
  intro p e s m args below meth c s₁ B hml hv
  obtain ⟨rfl, hsz, hP, hK, hD0, hZ, hN⟩ := hv
  have hx := B.exec
  have hb := B.bytes
  have hr := B.returns
  have hts := kw (atoms_spec (ws := .code y_Mo_feed prog_14_method_36_code 9 (some .int) :: AW) B.pre)
  have hown : s.vm.findClass R_Mo = some m.cls := findClass_of_methodNamed B.named
  have hlocks := B.notSynchronized
  subst hsz
  have hD := hD0.self (sz := s.heap.size)
  obtain ⟨Qg, hQg⟩ : ∃ q, q = MQ below (va_Qi (fun (r : Int32) (u : Unit) => r = kf p1) (fun (u : Unit) t => qw (dC, dI) CL (va_A [(h0, .inr (11, [w0, w1, w2, w3, w4, w5, w6, w7, .int th, w9, w10, w11, w12, w13, w14, w15, w16, w17, w18, w19, .ref tp, w21, w22, w23, w24, w25, w26, w27, w28, w29, .int (nI 0), w31, w32, w33])), (tp, .inl (kt, 300, .inl f))] s.heap.size) ((fun _ : Unit => []) u) ((fun _ : Unit => []) u) t) (va_A [(h0, .inr (11, [w0, w1, w2, w3, w4, w5, w6, w7, .int th, w9, w10, w11, w12, w13, w14, w15, w16, w17, w18, w19, .ref tp, w21, w22, w23, w24, w25, w26, w27, w28, w29, .int (nI 0), w31, w32, w33])), (tp, .inl (kt, 300, .inl f))] s.heap.size)) ([.ref h0, .int p1, .int p2, .int p3, .int p4, .int p5, .int p6] : List Value).toArray s 0 0 (va_A [(h0, .inr (11, [w0, w1, w2, w3, w4, w5, w6, w7, .int th, w9, w10, w11, w12, w13, w14, w15, w16, w17, w18, w19, .ref tp, w21, w22, w23, w24, w25, w26, w27, w28, w29, .int (nI 0), w31, w32, w33])), (tp, .inl (kt, 300, .inl f))] s.heap.size) := ⟨_, rfl⟩
  rw [← hQg]
  generalize hAe : va_A [(h0, .inr (11, [w0, w1, w2, w3, w4, w5, w6, w7, .int th, w9, w10, w11, w12, w13, w14, w15, w16, w17, w18, w19, .ref tp, w21, w22, w23, w24, w25, w26, w27, w28, w29, .int (nI 0), w31, w32, w33])), (tp, .inl (kt, 300, .inl f))] s.heap.size = A at hD hZ hQg
  have hA : ∀ q : Nat, s.heap.size ≤ q → A q := fun q h => by rw [← hAe]; exact Or.inr h
  have hS : va_S A s.heap s.heap [] := va_S.rf
  have hP : va_P (dC, dI) CL [(h0, .inr (11, [w0, w1, w2, w3, w4, w5, w6, w7, .int th, w9, w10, w11, w12, w13, w14, w15, w16, w17, w18, w19, .ref tp, w21, w22, w23, w24, w25, w26, w27, w28, w29, .int (nI 0), w31, w32, w33])), (tp, .inl (kt, 300, .inl f))] s.heap := hP
  have hl := lv_entry ([.ref h0, .int p1, .int p2, .int p3, .int p4, .int p5, .int p6]) (n := 9) (Nat.le_of_ble_eq_true rfl)
  rw [lg_entry_eq]
  generalize (lg_sl ([.ref h0, .int p1, .int p2, .int p3, .int p4, .int p5, .int p6]) ++ List.replicate (9 - (lg_sl ([.ref h0, .int p1, .int p2, .int p3, .int p4, .int p5, .int p6])).length) Slot.unset).toArray = ls at hl ⊢
  have hl : lv_has ls 9 [(0, .ref h0), (1, .int p1), (2, .int p2), (3, .int p3), (4, .int p4), (5, .int p5), (6, .int p6)] := hl
  show W p l e ({ frames := 0, cells := 0, slots := 0, locals := 0 } : Room) s m ([.ref h0, .int p1, .int p2, .int p3, .int p4, .int p5, .int p6] : List Value).toArray below meth c s.heap [] 0 0 Qg (F0 m 0 ls [])
  refine lv_aload_n hx hb d_Mo_feed_0 rfl (lv_at hl 0 rfl) ?_
  refine lv_iconst (v := (nI 0)) hx hb d_Mo_feed_1 (by decide +kernel) ?_
  refine va_put (D := (dC, dI)) (ci := 11) (v := .int (nI 0)) (ty := .int) (C := R_Mo) (T := F_Mo) (N := 34) hx hb hts i_Mo t_Mo t_Mo_ok n_Mo hown hK hP hD hS 0 rfl rfl 8 (by decide) (hts _ m_254) (fun _ h9 => h9) rfl (by decide +kernel) rfl rfl (Nat.le_of_ble_eq_true rfl) d_Mo_feed_2 (fun H locs hP hD hS => ?_)
  have hP : va_P (dC, dI) CL [(h0, .inr (11, [w0, w1, w2, w3, w4, w5, w6, w7, .int (nI 0), w9, w10, w11, w12, w13, w14, w15, w16, w17, w18, w19, .ref tp, w21, w22, w23, w24, w25, w26, w27, w28, w29, .int (nI 0), w31, w32, w33])), (tp, .inl (kt, 300, .inl f))] H := hP
  have hD : va_D A [(h0, .inr (11, [w0, w1, w2, w3, w4, w5, w6, w7, .int (nI 0), w9, w10, w11, w12, w13, w14, w15, w16, w17, w18, w19, .ref tp, w21, w22, w23, w24, w25, w26, w27, w28, w29, .int (nI 0), w31, w32, w33])), (tp, .inl (kt, 300, .inl f))] := hD
  refine lv_iload_n hx hb d_Mo_feed_5 rfl (lv_at hl 1 rfl) ?_
  refine lv_if_lt (tgt := 27) hx hb d_Mo_feed_6 (by decide) (fun c6 => ?_) (fun c6 => ?_)
  · refine lv_iconst (v := (-1)) hx hb d_Mo_feed_27 (by decide +kernel) ?_
    have hP9 := hP.sub (ws' := []) [] rfl
    have hD9 := hD.sub (ws' := []) [] (by decide) rfl
    have hK9 := hK.sub (tys' := []) [] rfl
    rw [hQg]
    exact W.iret (v := (-1)) hx hb hr (fun t ht hW => ⟨⟨(-1), (), rfl, (by first | exact (k_f1 c6).symm | exact (k_f2 c12).symm), by rw [ht]; exact hP9, va_K.moved hW.alike hK9, hD9⟩, hS.F ht⟩) hS.2.2 d_Mo_feed_28
  · refine lv_iload_n hx hb d_Mo_feed_9 rfl (lv_at hl 1 rfl) ?_
    refine lv_bipush (v := (nI 20)) hx hb d_Mo_feed_10 (by decide +kernel) ?_
    refine lv_icmp_gt (tgt := 27) hx hb d_Mo_feed_12 (by decide) (fun c12 => ?_) (fun c12 => ?_)
    · refine lv_iconst (v := (-1)) hx hb d_Mo_feed_27 (by decide +kernel) ?_
      have hP9 := hP.sub (ws' := []) [] rfl
      have hD9 := hD.sub (ws' := []) [] (by decide) rfl
      have hK9 := hK.sub (tys' := []) [] rfl
      rw [hQg]
      exact W.iret (v := (-1)) hx hb hr (fun t ht hW => ⟨⟨(-1), (), rfl, (by first | exact (k_f1 c6).symm | exact (k_f2 c12).symm), by rw [ht]; exact hP9, va_K.moved hW.alike hK9, hD9⟩, hS.F ht⟩) hS.2.2 d_Mo_feed_28
    · refine lv_aload_n hx hb d_Mo_feed_15 rfl (lv_at hl 0 rfl) ?_
      refine va_get (D := (dC, dI)) (ci := 11) (v := .int (nI 0)) (C := R_Mo) (T := F_Mo) (N := 34) hx hb hts i_Mo hown hK hP 0 rfl rfl 30 (by decide) (hts _ m_255) (fun _ h9 => h9) rfl d_Mo_feed_16 ?_
      refine lv_iload_n hx hb d_Mo_feed_19 rfl (lv_at hl 1 rfl) ?_
      refine lv_iadd hx hb d_Mo_feed_20 ?_
      refine lv_topi (fun sm9 esm9 => ?_)
      refine lv_sipush (v := (nI 300)) hx hb d_Mo_feed_21 (by decide +kernel) ?_
      refine lv_icmp_le (tgt := 29) hx hb d_Mo_feed_24 (by decide) (fun c24 => ?_) (fun c24 => absurd (by rw [esm9]; exact k_tape c6 c12) c24)
      obtain ⟨j9, hj9, ej9⟩ := k_feed c6 c12
      subst ej9
      refine lv_iconst (v := (nI 0)) hx hb d_Mo_feed_29 (by decide +kernel) ?_
      refine lv_istore (lv' := [(7, .int (nI 0)), (0, .ref h0), (1, .int (nI j9)), (2, .int p2), (3, .int p3), (4, .int p4), (5, .int p5), (6, .int p6)]) hx hb d_Mo_feed_30 hl (by decide) rfl (fun ls hl => ?_)
      have lb_32 : ∀ (n9 : Nat) (i9 : Nat) (f9 : Nat → Int32) (H : Heap) (locs : List Loc) (ls : Array Slot), (i9 ≤ j9) → (j9 - i9 < n9) → va_P (dC, dI) CL [(h0, .inr (11, [w0, w1, w2, w3, w4, w5, w6, w7, .int (nI 0), w9, w10, w11, w12, w13, w14, w15, w16, w17, w18, w19, .ref tp, w21, w22, w23, w24, w25, w26, w27, w28, w29, .int (nI 0), w31, w32, w33])), (tp, .inl (kt, 300, .inl f9))] H → va_D A [(h0, .inr (11, [w0, w1, w2, w3, w4, w5, w6, w7, .int (nI 0), w9, w10, w11, w12, w13, w14, w15, w16, w17, w18, w19, .ref tp, w21, w22, w23, w24, w25, w26, w27, w28, w29, .int (nI 0), w31, w32, w33])), (tp, .inl (kt, 300, .inl f9))] → va_S A s.heap H locs → lv_has ls 9 [(0, .ref h0), (1, .int (nI j9)), (2, .int p2), (3, .int p3), (4, .int p4), (5, .int p5), (6, .int p6), (7, .int (nI i9))] → W p l e ({ frames := 0, cells := 0, slots := 0, locals := 0 } : Room) s m ([.ref h0, .int (nI j9), .int p2, .int p3, .int p4, .int p5, .int p6] : List Value).toArray below meth c H locs 0 0 Qg (F0 m 32 ls []) := by
        intro n9
        induction n9 with
        | zero => intro i9 f9 H locs ls hi9 hm9; exact absurd hm9 (Nat.not_lt_zero _)
        | succ n9 ih32 =>
          intro i9 f9 H locs ls hi9 hm32 hP hD hS hl
          refine lv_iload hx hb d_Mo_feed_32 (lv_at hl 7 rfl) ?_
          refine lv_iload_n hx hb d_Mo_feed_34 rfl (lv_at hl 1 rfl) ?_
          refine lv_icmp_ge (tgt := 119) hx hb d_Mo_feed_35 (by decide) (fun c35 => ?_) (fun c35 => ?_)
          · have c35 : j9 ≤ i9 := (nI_leI (by omega) (by omega)).mp c35
            refine lv_aload_n hx hb d_Mo_feed_119 rfl (lv_at hl 0 rfl) ?_
            refine lv_dup hx hb d_Mo_feed_120 rfl ?_
            refine va_get (D := (dC, dI)) (ci := 11) (v := .int (nI 0)) (C := R_Mo) (T := F_Mo) (N := 34) hx hb hts i_Mo hown hK hP 0 rfl rfl 30 (by decide) (hts _ m_255) (fun _ h9 => h9) rfl d_Mo_feed_121 ?_
            refine lv_iload_n hx hb d_Mo_feed_124 rfl (lv_at hl 1 rfl) ?_
            refine lv_iadd hx hb d_Mo_feed_125 ?_
            refine ki (v := nI (0 + j9)) (k_add 0 j9 rfl) ?_
            refine va_put (D := (dC, dI)) (ci := 11) (v := .int (nI (0 + j9))) (ty := .int) (C := R_Mo) (T := F_Mo) (N := 34) hx hb hts i_Mo t_Mo t_Mo_ok n_Mo hown hK hP hD hS 0 rfl rfl 30 (by decide) (hts _ m_255) (fun _ h9 => h9) rfl (by decide +kernel) rfl rfl (Nat.le_of_ble_eq_true rfl) d_Mo_feed_126 (fun H locs hP hD hS => ?_)
            have hP : va_P (dC, dI) CL [(h0, .inr (11, [w0, w1, w2, w3, w4, w5, w6, w7, .int (nI 0), w9, w10, w11, w12, w13, w14, w15, w16, w17, w18, w19, .ref tp, w21, w22, w23, w24, w25, w26, w27, w28, w29, .int (nI (0 + j9)), w31, w32, w33])), (tp, .inl (kt, 300, .inl f9))] H := hP
            have hD : va_D A [(h0, .inr (11, [w0, w1, w2, w3, w4, w5, w6, w7, .int (nI 0), w9, w10, w11, w12, w13, w14, w15, w16, w17, w18, w19, .ref tp, w21, w22, w23, w24, w25, w26, w27, w28, w29, .int (nI (0 + j9)), w31, w32, w33])), (tp, .inl (kt, 300, .inl f9))] := hD
            refine lv_aload_n hx hb d_Mo_feed_129 rfl (lv_at hl 0 rfl) ?_
            refine va_get (D := (dC, dI)) (ci := 11) (v := .int (nI (0 + j9))) (C := R_Mo) (T := F_Mo) (N := 34) hx hb hts i_Mo hown hK hP 0 rfl rfl 30 (by decide) (hts _ m_255) (fun _ h9 => h9) rfl d_Mo_feed_130 ?_
            have hP9 := hP.sub (ws' := []) [] rfl
            have hD9 := hD.sub (ws' := []) [] (by decide) rfl
            have hK9 := hK.sub (tys' := []) [] rfl
            rw [hQg]
            exact W.iret (v := (nI (0 + j9))) hx hb hr (fun t ht hW => ⟨⟨(nI (0 + j9)), (), rfl, (by rw [kf_in c6 c12]; congr 1; omega), by rw [ht]; exact hP9, va_K.moved hW.alike hK9, hD9⟩, hS.F ht⟩) hS.2.2 d_Mo_feed_133
          · have c35 : ¬ (j9 ≤ i9) := fun h => c35 ((nI_leI (by omega) (by omega)).mpr h)
            refine lv_iload hx hb d_Mo_feed_38 (lv_at hl 7 rfl) ?_
            refine lv_iconst (v := (nI 4)) hx hb d_Mo_feed_40 (by decide +kernel) ?_
            refine lv_icmp_ge (tgt := 48) hx hb d_Mo_feed_41 (by decide) (fun c41 => ?_) (fun c41 => ?_)
            · have c41 : 4 ≤ i9 := (nI_leI (by omega) (by omega)).mp c41
              refine lv_iload hx hb d_Mo_feed_48 (lv_at hl 7 rfl) ?_
              refine lv_bipush (v := (nI 8)) hx hb d_Mo_feed_50 (by decide +kernel) ?_
              refine lv_icmp_ge (tgt := 59) hx hb d_Mo_feed_52 (by decide) (fun c52 => ?_) (fun c52 => ?_)
              · have c52 : 8 ≤ i9 := (nI_leI (by omega) (by omega)).mp c52
                refine lv_iload hx hb d_Mo_feed_59 (lv_at hl 7 rfl) ?_
                refine lv_bipush (v := (nI 12)) hx hb d_Mo_feed_61 (by decide +kernel) ?_
                refine lv_icmp_ge (tgt := 71) hx hb d_Mo_feed_63 (by decide) (fun c63 => ?_) (fun c63 => ?_)
                · have c63 : 12 ≤ i9 := (nI_leI (by omega) (by omega)).mp c63
                  refine lv_iload hx hb d_Mo_feed_71 (lv_at hl 7 rfl) ?_
                  refine lv_bipush (v := (nI 16)) hx hb d_Mo_feed_73 (by decide +kernel) ?_
                  refine lv_icmp_ge (tgt := 83) hx hb d_Mo_feed_75 (by decide) (fun c75 => ?_) (fun c75 => ?_)
                  · have c75 : 16 ≤ i9 := (nI_leI (by omega) (by omega)).mp c75
                    refine lv_iload hx hb d_Mo_feed_83 (lv_at hl 6 rfl) ?_
                    refine lv_istore (lv' := [(8, .int p6), (0, .ref h0), (1, .int (nI j9)), (2, .int p2), (3, .int p3), (4, .int p4), (5, .int p5), (6, .int p6), (7, .int (nI i9))]) hx hb d_Mo_feed_85 hl (by decide) rfl (fun ls hl => ?_)
                    refine lv_aload_n hx hb d_Mo_feed_87 rfl (lv_at hl 1 rfl) ?_
                    refine va_get (D := (dC, dI)) (ci := 11) (v := .ref tp) (C := R_Mo) (T := F_Mo) (N := 34) hx hb hts i_Mo hown hK hP 0 rfl rfl 20 (by decide) (hts _ m_281) (fun _ h9 => h9) rfl d_Mo_feed_88 ?_
                    refine lv_aload_n hx hb d_Mo_feed_91 rfl (lv_at hl 1 rfl) ?_
                    refine va_get (D := (dC, dI)) (ci := 11) (v := .int (nI 0)) (C := R_Mo) (T := F_Mo) (N := 34) hx hb hts i_Mo hown hK hP 0 rfl rfl 30 (by decide) (hts _ m_255) (fun _ h9 => h9) rfl d_Mo_feed_92 ?_
                    refine lv_iload hx hb d_Mo_feed_95 (lv_at hl 8 rfl) ?_
                    refine lv_iadd hx hb d_Mo_feed_97 ?_
                    refine ki (v := nI (0 + i9)) (k_add 0 i9 rfl) ?_
                    refine lv_iload hx hb d_Mo_feed_98 (lv_at hl 0 rfl) ?_
                    refine lv_bipush (v := (nI 24)) hx hb d_Mo_feed_100 (by decide +kernel) ?_
                    refine lv_bipush (v := (nI 8)) hx hb d_Mo_feed_102 (by decide +kernel) ?_
                    refine lv_iload hx hb d_Mo_feed_104 (lv_at hl 8 rfl) ?_
                    refine lv_iconst (v := (nI 4)) hx hb d_Mo_feed_106 (by decide +kernel) ?_
                    refine lv_irem hx hb d_Mo_feed_107 (by decide) ?_
                    refine ki (v := nI (i9 % 4)) (pk_rem (by omega) (by decide) (by decide)) ?_
                    refine lv_imul hx hb d_Mo_feed_108 ?_
                    refine ki (v := nI (8 * (i9 % 4))) (k_mul 8 (i9 % 4) rfl) ?_
                    refine lv_isub hx hb d_Mo_feed_109 ?_
                    refine ki (v := nI (24 - (8 * (i9 % 4)))) (pk_sub (by omega)) ?_
                    refine lv_ishr hx hb d_Mo_feed_110 ?_
                    refine lv_topi (fun v_1 _ => ?_)
                    refine lv_i2b hx hb d_Mo_feed_111 rfl ?_
                    refine lv_topi (fun v_2 _ => ?_)
                    refine kv_bast hx hb hK hP hD hS 1 0 rfl rfl (by omega) (by omega) d_Mo_feed_112 (fun H locs g_3 _ hP hD hS => ?_)
                    have hP : va_P (dC, dI) CL [(h0, .inr (11, [w0, w1, w2, w3, w4, w5, w6, w7, .int (nI 0), w9, w10, w11, w12, w13, w14, w15, w16, w17, w18, w19, .ref tp, w21, w22, w23, w24, w25, w26, w27, w28, w29, .int (nI 0), w31, w32, w33])), (tp, .inl (kt, 300, .inl g_3))] H := hP
                    have hD : va_D A [(h0, .inr (11, [w0, w1, w2, w3, w4, w5, w6, w7, .int (nI 0), w9, w10, w11, w12, w13, w14, w15, w16, w17, w18, w19, .ref tp, w21, w22, w23, w24, w25, w26, w27, w28, w29, .int (nI 0), w31, w32, w33])), (tp, .inl (kt, 300, .inl g_3))] := hD
                    refine lv_iinc (v := (nI (i9 + 1))) (lv' := [(7, .int (nI (i9 + 1))), (8, .int p6), (0, .ref h0), (1, .int (nI j9)), (2, .int p2), (3, .int p3), (4, .int p4), (5, .int p5), (6, .int p6)]) hx hb d_Mo_feed_113 hl (k := 8) rfl (k_inc _) (by decide) rfl (fun ls hl => ?_)
                    refine lv_goto (tgt := 32) hx hb d_Mo_feed_116 (by decide) ?_
                    exact ih32  (i9 + 1) g_3 _ _ _ (by omega) (by omega) (hP.sub [0, 1] rfl) (hD.sub [0, 1] (by decide) rfl) hS (lv_sub hl [2, 3, 4, 5, 6, 7, 8, 0] rfl)
                  · have c75 : ¬ (16 ≤ i9) := fun h => c75 ((nI_leI (by omega) (by omega)).mpr h)
                    refine lv_iload hx hb d_Mo_feed_78 (lv_at hl 5 rfl) ?_
                    refine lv_goto (tgt := 85) hx hb d_Mo_feed_80 (by decide) ?_
                    refine lv_istore (lv' := [(8, .int p5), (0, .ref h0), (1, .int (nI j9)), (2, .int p2), (3, .int p3), (4, .int p4), (5, .int p5), (6, .int p6), (7, .int (nI i9))]) hx hb d_Mo_feed_85 hl (by decide) rfl (fun ls hl => ?_)
                    refine lv_aload_n hx hb d_Mo_feed_87 rfl (lv_at hl 1 rfl) ?_
                    refine va_get (D := (dC, dI)) (ci := 11) (v := .ref tp) (C := R_Mo) (T := F_Mo) (N := 34) hx hb hts i_Mo hown hK hP 0 rfl rfl 20 (by decide) (hts _ m_281) (fun _ h9 => h9) rfl d_Mo_feed_88 ?_
                    refine lv_aload_n hx hb d_Mo_feed_91 rfl (lv_at hl 1 rfl) ?_
                    refine va_get (D := (dC, dI)) (ci := 11) (v := .int (nI 0)) (C := R_Mo) (T := F_Mo) (N := 34) hx hb hts i_Mo hown hK hP 0 rfl rfl 30 (by decide) (hts _ m_255) (fun _ h9 => h9) rfl d_Mo_feed_92 ?_
                    refine lv_iload hx hb d_Mo_feed_95 (lv_at hl 8 rfl) ?_
                    refine lv_iadd hx hb d_Mo_feed_97 ?_
                    refine ki (v := nI (0 + i9)) (k_add 0 i9 rfl) ?_
                    refine lv_iload hx hb d_Mo_feed_98 (lv_at hl 0 rfl) ?_
                    refine lv_bipush (v := (nI 24)) hx hb d_Mo_feed_100 (by decide +kernel) ?_
                    refine lv_bipush (v := (nI 8)) hx hb d_Mo_feed_102 (by decide +kernel) ?_
                    refine lv_iload hx hb d_Mo_feed_104 (lv_at hl 8 rfl) ?_
                    refine lv_iconst (v := (nI 4)) hx hb d_Mo_feed_106 (by decide +kernel) ?_
                    refine lv_irem hx hb d_Mo_feed_107 (by decide) ?_
                    refine ki (v := nI (i9 % 4)) (pk_rem (by omega) (by decide) (by decide)) ?_
                    refine lv_imul hx hb d_Mo_feed_108 ?_
                    refine ki (v := nI (8 * (i9 % 4))) (k_mul 8 (i9 % 4) rfl) ?_
                    refine lv_isub hx hb d_Mo_feed_109 ?_
                    refine ki (v := nI (24 - (8 * (i9 % 4)))) (pk_sub (by omega)) ?_
                    refine lv_ishr hx hb d_Mo_feed_110 ?_
                    refine lv_topi (fun v_4 _ => ?_)
                    refine lv_i2b hx hb d_Mo_feed_111 rfl ?_
                    refine lv_topi (fun v_5 _ => ?_)
                    refine kv_bast hx hb hK hP hD hS 1 0 rfl rfl (by omega) (by omega) d_Mo_feed_112 (fun H locs g_6 _ hP hD hS => ?_)
                    have hP : va_P (dC, dI) CL [(h0, .inr (11, [w0, w1, w2, w3, w4, w5, w6, w7, .int (nI 0), w9, w10, w11, w12, w13, w14, w15, w16, w17, w18, w19, .ref tp, w21, w22, w23, w24, w25, w26, w27, w28, w29, .int (nI 0), w31, w32, w33])), (tp, .inl (kt, 300, .inl g_6))] H := hP
                    have hD : va_D A [(h0, .inr (11, [w0, w1, w2, w3, w4, w5, w6, w7, .int (nI 0), w9, w10, w11, w12, w13, w14, w15, w16, w17, w18, w19, .ref tp, w21, w22, w23, w24, w25, w26, w27, w28, w29, .int (nI 0), w31, w32, w33])), (tp, .inl (kt, 300, .inl g_6))] := hD
                    refine lv_iinc (v := (nI (i9 + 1))) (lv' := [(7, .int (nI (i9 + 1))), (8, .int p5), (0, .ref h0), (1, .int (nI j9)), (2, .int p2), (3, .int p3), (4, .int p4), (5, .int p5), (6, .int p6)]) hx hb d_Mo_feed_113 hl (k := 8) rfl (k_inc _) (by decide) rfl (fun ls hl => ?_)
                    refine lv_goto (tgt := 32) hx hb d_Mo_feed_116 (by decide) ?_
                    exact ih32  (i9 + 1) g_6 _ _ _ (by omega) (by omega) (hP.sub [0, 1] rfl) (hD.sub [0, 1] (by decide) rfl) hS (lv_sub hl [2, 3, 4, 5, 6, 7, 8, 0] rfl)
                · have c63 : ¬ (12 ≤ i9) := fun h => c63 ((nI_leI (by omega) (by omega)).mpr h)
                  refine lv_iload hx hb d_Mo_feed_66 (lv_at hl 4 rfl) ?_
                  refine lv_goto (tgt := 85) hx hb d_Mo_feed_68 (by decide) ?_
                  refine lv_istore (lv' := [(8, .int p4), (0, .ref h0), (1, .int (nI j9)), (2, .int p2), (3, .int p3), (4, .int p4), (5, .int p5), (6, .int p6), (7, .int (nI i9))]) hx hb d_Mo_feed_85 hl (by decide) rfl (fun ls hl => ?_)
                  refine lv_aload_n hx hb d_Mo_feed_87 rfl (lv_at hl 1 rfl) ?_
                  refine va_get (D := (dC, dI)) (ci := 11) (v := .ref tp) (C := R_Mo) (T := F_Mo) (N := 34) hx hb hts i_Mo hown hK hP 0 rfl rfl 20 (by decide) (hts _ m_281) (fun _ h9 => h9) rfl d_Mo_feed_88 ?_
                  refine lv_aload_n hx hb d_Mo_feed_91 rfl (lv_at hl 1 rfl) ?_
                  refine va_get (D := (dC, dI)) (ci := 11) (v := .int (nI 0)) (C := R_Mo) (T := F_Mo) (N := 34) hx hb hts i_Mo hown hK hP 0 rfl rfl 30 (by decide) (hts _ m_255) (fun _ h9 => h9) rfl d_Mo_feed_92 ?_
                  refine lv_iload hx hb d_Mo_feed_95 (lv_at hl 8 rfl) ?_
                  refine lv_iadd hx hb d_Mo_feed_97 ?_
                  refine ki (v := nI (0 + i9)) (k_add 0 i9 rfl) ?_
                  refine lv_iload hx hb d_Mo_feed_98 (lv_at hl 0 rfl) ?_
                  refine lv_bipush (v := (nI 24)) hx hb d_Mo_feed_100 (by decide +kernel) ?_
                  refine lv_bipush (v := (nI 8)) hx hb d_Mo_feed_102 (by decide +kernel) ?_
                  refine lv_iload hx hb d_Mo_feed_104 (lv_at hl 8 rfl) ?_
                  refine lv_iconst (v := (nI 4)) hx hb d_Mo_feed_106 (by decide +kernel) ?_
                  refine lv_irem hx hb d_Mo_feed_107 (by decide) ?_
                  refine ki (v := nI (i9 % 4)) (pk_rem (by omega) (by decide) (by decide)) ?_
                  refine lv_imul hx hb d_Mo_feed_108 ?_
                  refine ki (v := nI (8 * (i9 % 4))) (k_mul 8 (i9 % 4) rfl) ?_
                  refine lv_isub hx hb d_Mo_feed_109 ?_
                  refine ki (v := nI (24 - (8 * (i9 % 4)))) (pk_sub (by omega)) ?_
                  refine lv_ishr hx hb d_Mo_feed_110 ?_
                  refine lv_topi (fun v_7 _ => ?_)
                  refine lv_i2b hx hb d_Mo_feed_111 rfl ?_
                  refine lv_topi (fun v_8 _ => ?_)
                  refine kv_bast hx hb hK hP hD hS 1 0 rfl rfl (by omega) (by omega) d_Mo_feed_112 (fun H locs g_9 _ hP hD hS => ?_)
                  have hP : va_P (dC, dI) CL [(h0, .inr (11, [w0, w1, w2, w3, w4, w5, w6, w7, .int (nI 0), w9, w10, w11, w12, w13, w14, w15, w16, w17, w18, w19, .ref tp, w21, w22, w23, w24, w25, w26, w27, w28, w29, .int (nI 0), w31, w32, w33])), (tp, .inl (kt, 300, .inl g_9))] H := hP
                  have hD : va_D A [(h0, .inr (11, [w0, w1, w2, w3, w4, w5, w6, w7, .int (nI 0), w9, w10, w11, w12, w13, w14, w15, w16, w17, w18, w19, .ref tp, w21, w22, w23, w24, w25, w26, w27, w28, w29, .int (nI 0), w31, w32, w33])), (tp, .inl (kt, 300, .inl g_9))] := hD
                  refine lv_iinc (v := (nI (i9 + 1))) (lv' := [(7, .int (nI (i9 + 1))), (8, .int p4), (0, .ref h0), (1, .int (nI j9)), (2, .int p2), (3, .int p3), (4, .int p4), (5, .int p5), (6, .int p6)]) hx hb d_Mo_feed_113 hl (k := 8) rfl (k_inc _) (by decide) rfl (fun ls hl => ?_)
                  refine lv_goto (tgt := 32) hx hb d_Mo_feed_116 (by decide) ?_
                  exact ih32  (i9 + 1) g_9 _ _ _ (by omega) (by omega) (hP.sub [0, 1] rfl) (hD.sub [0, 1] (by decide) rfl) hS (lv_sub hl [2, 3, 4, 5, 6, 7, 8, 0] rfl)
              · have c52 : ¬ (8 ≤ i9) := fun h => c52 ((nI_leI (by omega) (by omega)).mpr h)
                refine lv_iload_n hx hb d_Mo_feed_55 rfl (lv_at hl 3 rfl) ?_
                refine lv_goto (tgt := 85) hx hb d_Mo_feed_56 (by decide) ?_
                refine lv_istore (lv' := [(8, .int p3), (0, .ref h0), (1, .int (nI j9)), (2, .int p2), (3, .int p3), (4, .int p4), (5, .int p5), (6, .int p6), (7, .int (nI i9))]) hx hb d_Mo_feed_85 hl (by decide) rfl (fun ls hl => ?_)
                refine lv_aload_n hx hb d_Mo_feed_87 rfl (lv_at hl 1 rfl) ?_
                refine va_get (D := (dC, dI)) (ci := 11) (v := .ref tp) (C := R_Mo) (T := F_Mo) (N := 34) hx hb hts i_Mo hown hK hP 0 rfl rfl 20 (by decide) (hts _ m_281) (fun _ h9 => h9) rfl d_Mo_feed_88 ?_
                refine lv_aload_n hx hb d_Mo_feed_91 rfl (lv_at hl 1 rfl) ?_
                refine va_get (D := (dC, dI)) (ci := 11) (v := .int (nI 0)) (C := R_Mo) (T := F_Mo) (N := 34) hx hb hts i_Mo hown hK hP 0 rfl rfl 30 (by decide) (hts _ m_255) (fun _ h9 => h9) rfl d_Mo_feed_92 ?_
                refine lv_iload hx hb d_Mo_feed_95 (lv_at hl 8 rfl) ?_
                refine lv_iadd hx hb d_Mo_feed_97 ?_
                refine ki (v := nI (0 + i9)) (k_add 0 i9 rfl) ?_
                refine lv_iload hx hb d_Mo_feed_98 (lv_at hl 0 rfl) ?_
                refine lv_bipush (v := (nI 24)) hx hb d_Mo_feed_100 (by decide +kernel) ?_
                refine lv_bipush (v := (nI 8)) hx hb d_Mo_feed_102 (by decide +kernel) ?_
                refine lv_iload hx hb d_Mo_feed_104 (lv_at hl 8 rfl) ?_
                refine lv_iconst (v := (nI 4)) hx hb d_Mo_feed_106 (by decide +kernel) ?_
                refine lv_irem hx hb d_Mo_feed_107 (by decide) ?_
                refine ki (v := nI (i9 % 4)) (pk_rem (by omega) (by decide) (by decide)) ?_
                refine lv_imul hx hb d_Mo_feed_108 ?_
                refine ki (v := nI (8 * (i9 % 4))) (k_mul 8 (i9 % 4) rfl) ?_
                refine lv_isub hx hb d_Mo_feed_109 ?_
                refine ki (v := nI (24 - (8 * (i9 % 4)))) (pk_sub (by omega)) ?_
                refine lv_ishr hx hb d_Mo_feed_110 ?_
                refine lv_topi (fun v_10 _ => ?_)
                refine lv_i2b hx hb d_Mo_feed_111 rfl ?_
                refine lv_topi (fun v_11 _ => ?_)
                refine kv_bast hx hb hK hP hD hS 1 0 rfl rfl (by omega) (by omega) d_Mo_feed_112 (fun H locs g_12 _ hP hD hS => ?_)
                have hP : va_P (dC, dI) CL [(h0, .inr (11, [w0, w1, w2, w3, w4, w5, w6, w7, .int (nI 0), w9, w10, w11, w12, w13, w14, w15, w16, w17, w18, w19, .ref tp, w21, w22, w23, w24, w25, w26, w27, w28, w29, .int (nI 0), w31, w32, w33])), (tp, .inl (kt, 300, .inl g_12))] H := hP
                have hD : va_D A [(h0, .inr (11, [w0, w1, w2, w3, w4, w5, w6, w7, .int (nI 0), w9, w10, w11, w12, w13, w14, w15, w16, w17, w18, w19, .ref tp, w21, w22, w23, w24, w25, w26, w27, w28, w29, .int (nI 0), w31, w32, w33])), (tp, .inl (kt, 300, .inl g_12))] := hD
                refine lv_iinc (v := (nI (i9 + 1))) (lv' := [(7, .int (nI (i9 + 1))), (8, .int p3), (0, .ref h0), (1, .int (nI j9)), (2, .int p2), (3, .int p3), (4, .int p4), (5, .int p5), (6, .int p6)]) hx hb d_Mo_feed_113 hl (k := 8) rfl (k_inc _) (by decide) rfl (fun ls hl => ?_)
                refine lv_goto (tgt := 32) hx hb d_Mo_feed_116 (by decide) ?_
                exact ih32  (i9 + 1) g_12 _ _ _ (by omega) (by omega) (hP.sub [0, 1] rfl) (hD.sub [0, 1] (by decide) rfl) hS (lv_sub hl [2, 3, 4, 5, 6, 7, 8, 0] rfl)
            · have c41 : ¬ (4 ≤ i9) := fun h => c41 ((nI_leI (by omega) (by omega)).mpr h)
              refine lv_iload_n hx hb d_Mo_feed_44 rfl (lv_at hl 2 rfl) ?_
              refine lv_goto (tgt := 85) hx hb d_Mo_feed_45 (by decide) ?_
              refine lv_istore (lv' := [(8, .int p2), (0, .ref h0), (1, .int (nI j9)), (2, .int p2), (3, .int p3), (4, .int p4), (5, .int p5), (6, .int p6), (7, .int (nI i9))]) hx hb d_Mo_feed_85 hl (by decide) rfl (fun ls hl => ?_)
              refine lv_aload_n hx hb d_Mo_feed_87 rfl (lv_at hl 1 rfl) ?_
              refine va_get (D := (dC, dI)) (ci := 11) (v := .ref tp) (C := R_Mo) (T := F_Mo) (N := 34) hx hb hts i_Mo hown hK hP 0 rfl rfl 20 (by decide) (hts _ m_281) (fun _ h9 => h9) rfl d_Mo_feed_88 ?_
              refine lv_aload_n hx hb d_Mo_feed_91 rfl (lv_at hl 1 rfl) ?_
              refine va_get (D := (dC, dI)) (ci := 11) (v := .int (nI 0)) (C := R_Mo) (T := F_Mo) (N := 34) hx hb hts i_Mo hown hK hP 0 rfl rfl 30 (by decide) (hts _ m_255) (fun _ h9 => h9) rfl d_Mo_feed_92 ?_
              refine lv_iload hx hb d_Mo_feed_95 (lv_at hl 8 rfl) ?_
              refine lv_iadd hx hb d_Mo_feed_97 ?_
              refine ki (v := nI (0 + i9)) (k_add 0 i9 rfl) ?_
              refine lv_iload hx hb d_Mo_feed_98 (lv_at hl 0 rfl) ?_
              refine lv_bipush (v := (nI 24)) hx hb d_Mo_feed_100 (by decide +kernel) ?_
              refine lv_bipush (v := (nI 8)) hx hb d_Mo_feed_102 (by decide +kernel) ?_
              refine lv_iload hx hb d_Mo_feed_104 (lv_at hl 8 rfl) ?_
              refine lv_iconst (v := (nI 4)) hx hb d_Mo_feed_106 (by decide +kernel) ?_
              refine lv_irem hx hb d_Mo_feed_107 (by decide) ?_
              refine ki (v := nI (i9 % 4)) (pk_rem (by omega) (by decide) (by decide)) ?_
              refine lv_imul hx hb d_Mo_feed_108 ?_
              refine ki (v := nI (8 * (i9 % 4))) (k_mul 8 (i9 % 4) rfl) ?_
              refine lv_isub hx hb d_Mo_feed_109 ?_
              refine ki (v := nI (24 - (8 * (i9 % 4)))) (pk_sub (by omega)) ?_
              refine lv_ishr hx hb d_Mo_feed_110 ?_
              refine lv_topi (fun v_13 _ => ?_)
              refine lv_i2b hx hb d_Mo_feed_111 rfl ?_
              refine lv_topi (fun v_14 _ => ?_)
              refine kv_bast hx hb hK hP hD hS 1 0 rfl rfl (by omega) (by omega) d_Mo_feed_112 (fun H locs g_15 _ hP hD hS => ?_)
              have hP : va_P (dC, dI) CL [(h0, .inr (11, [w0, w1, w2, w3, w4, w5, w6, w7, .int (nI 0), w9, w10, w11, w12, w13, w14, w15, w16, w17, w18, w19, .ref tp, w21, w22, w23, w24, w25, w26, w27, w28, w29, .int (nI 0), w31, w32, w33])), (tp, .inl (kt, 300, .inl g_15))] H := hP
              have hD : va_D A [(h0, .inr (11, [w0, w1, w2, w3, w4, w5, w6, w7, .int (nI 0), w9, w10, w11, w12, w13, w14, w15, w16, w17, w18, w19, .ref tp, w21, w22, w23, w24, w25, w26, w27, w28, w29, .int (nI 0), w31, w32, w33])), (tp, .inl (kt, 300, .inl g_15))] := hD
              refine lv_iinc (v := (nI (i9 + 1))) (lv' := [(7, .int (nI (i9 + 1))), (8, .int p2), (0, .ref h0), (1, .int (nI j9)), (2, .int p2), (3, .int p3), (4, .int p4), (5, .int p5), (6, .int p6)]) hx hb d_Mo_feed_113 hl (k := 8) rfl (k_inc _) (by decide) rfl (fun ls hl => ?_)
              refine lv_goto (tgt := 32) hx hb d_Mo_feed_116 (by decide) ?_
              exact ih32  (i9 + 1) g_15 _ _ _ (by omega) (by omega) (hP.sub [0, 1] rfl) (hD.sub [0, 1] (by decide) rfl) hS (lv_sub hl [2, 3, 4, 5, 6, 7, 8, 0] rfl)
      exact lb_32 (j9 - 0 + 1) 0 f _ _ _ (Nat.zero_le _) (Nat.lt_succ_self _) (hP.sub [0, 1] rfl) (hD.sub [0, 1] (by decide) rfl) hS (lv_sub hl [1, 2, 3, 4, 5, 6, 7, 0] rfl)
