-- ThresholdBench.takeTape
set_option maxHeartbeats 4000000 in
set_option maxRecDepth 100000 in
theorem c_TB_takeTape (l : Launch) (dC : Nat → ClassId) (dI : Nat → Nat → Nat) (h0 : Nat) (t0 : Nat) (t1 : Nat) (v0 : Value) (v1 : Value) (b1 : Nat) (n1 : Int32) (o2 : Value) (o3 : Value) (o4 : Value) (o5 : Value) (o6 : Value) (o7 : Value) (o8 : Value) (o9 : Value) (o10 : Value) (o11 : Value) (o12 : Value) (o13 : Value) (o14 : Value) (o15 : Value) (o16 : Value) (o17 : Value) (o18 : Value) (sz : Nat)  : Met l y_TB_takeTape (.code y_TB_takeTape prog_1_method_17_code 2 (none) :: AW) ({ frames := 1, cells := 0, slots := 0, locals := 20 } : Room) (va_Pc [.ref h0] (pw (dC, dI) CL [(h0, .inr (0, [.ref t0, .ref t1, o2, o3, o4, o5, o6, o7, o8, o9, o10, o11, o12, o13, o14, o15, o16, o17, o18])), (t0, .inr (1, [v0, v1])), (t1, .inr (1, [.ref b1, .int n1]))] [] sz)) (va_Qv (fun u : Unit => True) (fun (u : Unit) t => qw (dC, dI) CL (va_A [(h0, .inr (0, [.ref t0, .ref t1, o2, o3, o4, o5, o6, o7, o8, o9, o10, o11, o12, o13, o14, o15, o16, o17, o18])), (t0, .inr (1, [v0, v1])), (t1, .inr (1, [.ref b1, .int n1]))] sz) ((fun _ : Unit => [(h0, .inr (0, [.ref t1, .ref t0, o2, o3, o4, o5, o6, o7, o8, o9, o10, o11, o12, o13, o14, o15, o16, o17, o18])), (t0, .inr (1, [v0, v1])), (t1, .inr (1, [.ref b1, .int (nI 0)]))]) u) ((fun _ : Unit => []) u) t) (va_A [(h0, .inr (0, [.ref t0, .ref t1, o2, o3, o4, o5, o6, o7, o8, o9, o10, o11, o12, o13, o14, o15, o16, o17, o18])), (t0, .inr (1, [v0, v1])), (t1, .inr (1, [.ref b1, .int n1]))] sz)) 0 0 (va_A [(h0, .inr (0, [.ref t0, .ref t1, o2, o3, o4, o5, o6, o7, o8, o9, o10, o11, o12, o13, o14, o15, o16, o17, o18])), (t0, .inr (1, [v0, v1])), (t1, .inr (1, [.ref b1, .int n1]))] sz) := by
  refine Met.ofW (cc := prog_1_method_17_code) (maxL := 2) (ret := none) (by decide) rfl ?_
  intro p e s m args below meth c s₁ B hml hv
  obtain ⟨rfl, hsz, hP, hK, hD0, hZ, hN⟩ := hv
  have hx := B.exec
  have hb := B.bytes
  have hr := B.returns
  have hts := kw (atoms_spec (ws := .code y_TB_takeTape prog_1_method_17_code 2 (none) :: AW) B.pre)
  have hown : s.vm.findClass R_TB = some m.cls := findClass_of_methodNamed B.named
  have hlocks := B.notSynchronized
  subst hsz
  have hD := hD0.self (sz := s.heap.size)
  obtain ⟨Qg, hQg⟩ : ∃ q, q = MQ below (va_Qv (fun u : Unit => True) (fun (u : Unit) t => qw (dC, dI) CL (va_A [(h0, .inr (0, [.ref t0, .ref t1, o2, o3, o4, o5, o6, o7, o8, o9, o10, o11, o12, o13, o14, o15, o16, o17, o18])), (t0, .inr (1, [v0, v1])), (t1, .inr (1, [.ref b1, .int n1]))] s.heap.size) ((fun _ : Unit => [(h0, .inr (0, [.ref t1, .ref t0, o2, o3, o4, o5, o6, o7, o8, o9, o10, o11, o12, o13, o14, o15, o16, o17, o18])), (t0, .inr (1, [v0, v1])), (t1, .inr (1, [.ref b1, .int (nI 0)]))]) u) ((fun _ : Unit => []) u) t) (va_A [(h0, .inr (0, [.ref t0, .ref t1, o2, o3, o4, o5, o6, o7, o8, o9, o10, o11, o12, o13, o14, o15, o16, o17, o18])), (t0, .inr (1, [v0, v1])), (t1, .inr (1, [.ref b1, .int n1]))] s.heap.size)) ([.ref h0] : List Value).toArray s 0 0 (va_A [(h0, .inr (0, [.ref t0, .ref t1, o2, o3, o4, o5, o6, o7, o8, o9, o10, o11, o12, o13, o14, o15, o16, o17, o18])), (t0, .inr (1, [v0, v1])), (t1, .inr (1, [.ref b1, .int n1]))] s.heap.size) := ⟨_, rfl⟩
  rw [← hQg]
  generalize hAe : va_A [(h0, .inr (0, [.ref t0, .ref t1, o2, o3, o4, o5, o6, o7, o8, o9, o10, o11, o12, o13, o14, o15, o16, o17, o18])), (t0, .inr (1, [v0, v1])), (t1, .inr (1, [.ref b1, .int n1]))] s.heap.size = A at hD hZ hQg
  have hA : ∀ q : Nat, s.heap.size ≤ q → A q := fun q h => by rw [← hAe]; exact Or.inr h
  have hS : va_S A s.heap s.heap [] := va_S.rf
  have hP : va_P (dC, dI) CL [(h0, .inr (0, [.ref t0, .ref t1, o2, o3, o4, o5, o6, o7, o8, o9, o10, o11, o12, o13, o14, o15, o16, o17, o18])), (t0, .inr (1, [v0, v1])), (t1, .inr (1, [.ref b1, .int n1]))] s.heap := hP
  have hl := lv_entry ([.ref h0]) (n := 2) (Nat.le_of_ble_eq_true rfl)
  rw [lg_entry_eq]
  generalize (lg_sl ([.ref h0]) ++ List.replicate (2 - (lg_sl ([.ref h0])).length) Slot.unset).toArray = ls at hl ⊢
  have hl : lv_has ls 2 [(0, .ref h0)] := hl
  show W p l e ({ frames := 1, cells := 0, slots := 0, locals := 20 } : Room) s m ([.ref h0] : List Value).toArray below meth c s.heap [] 0 0 Qg (F0 m 0 ls [])
  refine lv_aload_n hx hb d_TB_takeTape_0 rfl (lv_at hl 0 rfl) ?_
  refine va_get (D := (dC, dI)) (ci := 0) (v := .ref t0) (C := R_TB) (T := F_TB) (N := 19) hx hb hts i_TB hown hK hP 0 rfl rfl 0 (by decide) (hts _ m_105) (fun _ h9 => h9) rfl d_TB_takeTape_1 ?_
  refine lv_astore_n (lv' := [(1, .ref t0), (0, .ref h0)]) hx hb d_TB_takeTape_4 rfl hl (by decide) rfl (fun ls hl => ?_)
  refine lv_aload_n hx hb d_TB_takeTape_5 rfl (lv_at hl 1 rfl) ?_
  refine lv_aload_n hx hb d_TB_takeTape_6 rfl (lv_at hl 1 rfl) ?_
  refine va_get (D := (dC, dI)) (ci := 0) (v := .ref t1) (C := R_TB) (T := F_TB) (N := 19) hx hb hts i_TB hown hK hP 0 rfl rfl 1 (by decide) (hts _ m_106) (fun _ h9 => h9) rfl d_TB_takeTape_7 ?_
  refine va_put (D := (dC, dI)) (ci := 0) (v := .ref t1) (ty := (.object "ThresholdBench$Row")) (C := R_TB) (T := F_TB) (N := 19) hx hb hts i_TB t_TB t_TB_ok n_TB hown hK hP hD hS 0 rfl rfl 0 (by decide) (hts _ m_105) (fun _ h9 => h9) rfl (by decide +kernel) rfl rfl (Nat.le_of_ble_eq_true rfl) d_TB_takeTape_10 (fun H locs hP hD hS => ?_)
  have hP : va_P (dC, dI) CL [(h0, .inr (0, [.ref t1, .ref t1, o2, o3, o4, o5, o6, o7, o8, o9, o10, o11, o12, o13, o14, o15, o16, o17, o18])), (t0, .inr (1, [v0, v1])), (t1, .inr (1, [.ref b1, .int n1]))] H := hP
  have hD : va_D A [(h0, .inr (0, [.ref t1, .ref t1, o2, o3, o4, o5, o6, o7, o8, o9, o10, o11, o12, o13, o14, o15, o16, o17, o18])), (t0, .inr (1, [v0, v1])), (t1, .inr (1, [.ref b1, .int n1]))] := hD
  refine lv_aload_n hx hb d_TB_takeTape_13 rfl (lv_at hl 1 rfl) ?_
  refine lv_aload_n hx hb d_TB_takeTape_14 rfl (lv_at hl 0 rfl) ?_
  refine va_put (D := (dC, dI)) (ci := 0) (v := .ref t0) (ty := (.object "ThresholdBench$Row")) (C := R_TB) (T := F_TB) (N := 19) hx hb hts i_TB t_TB t_TB_ok n_TB hown hK hP hD hS 0 rfl rfl 1 (by decide) (hts _ m_106) (fun _ h9 => h9) rfl (by decide +kernel) rfl rfl (Nat.le_of_ble_eq_true rfl) d_TB_takeTape_15 (fun H locs hP hD hS => ?_)
  have hP : va_P (dC, dI) CL [(h0, .inr (0, [.ref t1, .ref t0, o2, o3, o4, o5, o6, o7, o8, o9, o10, o11, o12, o13, o14, o15, o16, o17, o18])), (t0, .inr (1, [v0, v1])), (t1, .inr (1, [.ref b1, .int n1]))] H := hP
  have hD : va_D A [(h0, .inr (0, [.ref t1, .ref t0, o2, o3, o4, o5, o6, o7, o8, o9, o10, o11, o12, o13, o14, o15, o16, o17, o18])), (t0, .inr (1, [v0, v1])), (t1, .inr (1, [.ref b1, .int n1]))] := hD
  refine lv_aload_n hx hb d_TB_takeTape_18 rfl (lv_at hl 1 rfl) ?_
  refine va_get (D := (dC, dI)) (ci := 0) (v := .ref t1) (C := R_TB) (T := F_TB) (N := 19) hx hb hts i_TB hown hK hP 0 rfl rfl 0 (by decide) (hts _ m_105) (fun _ h9 => h9) rfl d_TB_takeTape_19 ?_
  refine k_finv (wr := [(h0, .inr (0, [.ref t1, .ref t0, o2, o3, o4, o5, o6, o7, o8, o9, o10, o11, o12, o13, o14, o15, o16, o17, o18])), (t0, .inr (1, [v0, v1]))]) [2] [0, 1] (k_runV (n := 0) (As := []) (rest := []) (wc := [(t1, .inr (1, [.ref b1, .int n1]))]) ⟨hx, hb, hml, hown, hts⟩ (c_Row_clear l dC dI t1 b1 n1 _ ) (kg_V m_165 m_166 m_167 m_10 (kg_code m_164)) (by decide +kernel) rfl rfl ⟨Nat.le_of_ble_eq_true rfl, Nat.le_of_ble_eq_true rfl⟩ [2] [] hP hD hK hS hA hZ hN (by rfl) (by decide) (by rfl) rfl rfl rfl rfl hl.1 rfl (Nat.le_of_ble_eq_true rfl) d_TB_takeTape_22 ⟨(Nat.le_of_ble_eq_true rfl), (Nat.le_of_ble_eq_true rfl)⟩) hP hD hK hS hA (by rfl) (by rfl) (by decide) (by decide) (fun u9 H locs hw_2 hP hD hK hS => ?_)
  try dsimp only at hw_2
  have hP : va_P (dC, dI) CL [(h0, .inr (0, [.ref t1, .ref t0, o2, o3, o4, o5, o6, o7, o8, o9, o10, o11, o12, o13, o14, o15, o16, o17, o18])), (t0, .inr (1, [v0, v1])), (t1, .inr (1, [.ref b1, .int (nI 0)]))] H := hP
  have hD : va_D A [(h0, .inr (0, [.ref t1, .ref t0, o2, o3, o4, o5, o6, o7, o8, o9, o10, o11, o12, o13, o14, o15, o16, o17, o18])), (t0, .inr (1, [v0, v1])), (t1, .inr (1, [.ref b1, .int (nI 0)]))] := hD
  have hK : va_K (dC, dI) CL [] s := hK
  have hP9 := hP.sub (ws' := [(h0, .inr (0, [.ref t1, .ref t0, o2, o3, o4, o5, o6, o7, o8, o9, o10, o11, o12, o13, o14, o15, o16, o17, o18])), (t0, .inr (1, [v0, v1])), (t1, .inr (1, [.ref b1, .int (nI 0)]))]) [0, 1, 2] rfl
  have hD9 := hD.sub (ws' := [(h0, .inr (0, [.ref t1, .ref t0, o2, o3, o4, o5, o6, o7, o8, o9, o10, o11, o12, o13, o14, o15, o16, o17, o18])), (t0, .inr (1, [v0, v1])), (t1, .inr (1, [.ref b1, .int (nI 0)]))]) [0, 1, 2] (by decide) rfl
  have hK9 := hK.sub (tys' := []) [] rfl
  rw [hQg]
  exact W.vret hx hb hr (fun t ht hW => ⟨⟨(), rfl, trivial, by rw [ht]; exact hP9, va_K.moved hW.alike hK9, hD9⟩, hS.F ht⟩) hS.2.2 d_TB_takeTape_25

-- ThresholdBench.endSet
set_option maxHeartbeats 4000000 in
set_option maxRecDepth 100000 in
theorem c_TB_endSet (l : Launch) (dC : Nat → ClassId) (dI : Nat → Nat → Nat) (h0 : Nat) (sg : Nat) (s0 : Int32) (s1 : Int32) (g2 : Value) (g3 : Value) (g4 : Value) (g5 : Value) (g6 : Value) (o0 : Value) (o1 : Value) (o2 : Value) (o3 : Value) (o4 : Value) (o5 : Value) (o6 : Value) (o7 : Value) (o8 : Value) (o10 : Value) (o11 : Value) (o12 : Value) (o13 : Value) (o14 : Value) (o15 : Value) (o16 : Value) (o17 : Value) (o18 : Value) (sz : Nat)  : Met l y_TB_endSet (.code y_TB_endSet prog_1_method_18_code 1 (none) :: AW) ({ frames := 0, cells := 0, slots := 0, locals := 0 } : Room) (va_Pc [.ref h0] (pw (dC, dI) CL [(h0, .inr (0, [o0, o1, o2, o3, o4, o5, o6, o7, o8, .ref sg, o10, o11, o12, o13, o14, o15, o16, o17, o18])), (sg, .inr (2, [.int s0, .int s1, g2, g3, g4, g5, g6]))] [] sz)) (va_Qv (fun u : Unit => True) (fun (u : Unit) t => qw (dC, dI) CL (va_A [(h0, .inr (0, [o0, o1, o2, o3, o4, o5, o6, o7, o8, .ref sg, o10, o11, o12, o13, o14, o15, o16, o17, o18])), (sg, .inr (2, [.int s0, .int s1, g2, g3, g4, g5, g6]))] sz) ((fun _ : Unit => [(h0, .inr (0, [o0, o1, o2, o3, o4, o5, o6, o7, o8, .ref sg, o10, o11, o12, o13, o14, o15, o16, o17, o18])), (sg, .inr (2, [.int (nI 0), .int (nI 0), g2, g3, g4, g5, g6]))]) u) ((fun _ : Unit => []) u) t) (va_A [(h0, .inr (0, [o0, o1, o2, o3, o4, o5, o6, o7, o8, .ref sg, o10, o11, o12, o13, o14, o15, o16, o17, o18])), (sg, .inr (2, [.int s0, .int s1, g2, g3, g4, g5, g6]))] sz)) 0 0 (va_A [(h0, .inr (0, [o0, o1, o2, o3, o4, o5, o6, o7, o8, .ref sg, o10, o11, o12, o13, o14, o15, o16, o17, o18])), (sg, .inr (2, [.int s0, .int s1, g2, g3, g4, g5, g6]))] sz) := by
  refine Met.ofW (cc := prog_1_method_18_code) (maxL := 1) (ret := none) (by decide) rfl ?_
  intro p e s m args below meth c s₁ B hml hv
  obtain ⟨rfl, hsz, hP, hK, hD0, hZ, hN⟩ := hv
  have hx := B.exec
  have hb := B.bytes
  have hr := B.returns
  have hts := kw (atoms_spec (ws := .code y_TB_endSet prog_1_method_18_code 1 (none) :: AW) B.pre)
  have hown : s.vm.findClass R_TB = some m.cls := findClass_of_methodNamed B.named
  have hlocks := B.notSynchronized
  subst hsz
  have hD := hD0.self (sz := s.heap.size)
  obtain ⟨Qg, hQg⟩ : ∃ q, q = MQ below (va_Qv (fun u : Unit => True) (fun (u : Unit) t => qw (dC, dI) CL (va_A [(h0, .inr (0, [o0, o1, o2, o3, o4, o5, o6, o7, o8, .ref sg, o10, o11, o12, o13, o14, o15, o16, o17, o18])), (sg, .inr (2, [.int s0, .int s1, g2, g3, g4, g5, g6]))] s.heap.size) ((fun _ : Unit => [(h0, .inr (0, [o0, o1, o2, o3, o4, o5, o6, o7, o8, .ref sg, o10, o11, o12, o13, o14, o15, o16, o17, o18])), (sg, .inr (2, [.int (nI 0), .int (nI 0), g2, g3, g4, g5, g6]))]) u) ((fun _ : Unit => []) u) t) (va_A [(h0, .inr (0, [o0, o1, o2, o3, o4, o5, o6, o7, o8, .ref sg, o10, o11, o12, o13, o14, o15, o16, o17, o18])), (sg, .inr (2, [.int s0, .int s1, g2, g3, g4, g5, g6]))] s.heap.size)) ([.ref h0] : List Value).toArray s 0 0 (va_A [(h0, .inr (0, [o0, o1, o2, o3, o4, o5, o6, o7, o8, .ref sg, o10, o11, o12, o13, o14, o15, o16, o17, o18])), (sg, .inr (2, [.int s0, .int s1, g2, g3, g4, g5, g6]))] s.heap.size) := ⟨_, rfl⟩
  rw [← hQg]
  generalize hAe : va_A [(h0, .inr (0, [o0, o1, o2, o3, o4, o5, o6, o7, o8, .ref sg, o10, o11, o12, o13, o14, o15, o16, o17, o18])), (sg, .inr (2, [.int s0, .int s1, g2, g3, g4, g5, g6]))] s.heap.size = A at hD hZ hQg
  have hA : ∀ q : Nat, s.heap.size ≤ q → A q := fun q h => by rw [← hAe]; exact Or.inr h
  have hS : va_S A s.heap s.heap [] := va_S.rf
  have hP : va_P (dC, dI) CL [(h0, .inr (0, [o0, o1, o2, o3, o4, o5, o6, o7, o8, .ref sg, o10, o11, o12, o13, o14, o15, o16, o17, o18])), (sg, .inr (2, [.int s0, .int s1, g2, g3, g4, g5, g6]))] s.heap := hP
  have hl := lv_entry ([.ref h0]) (n := 1) (Nat.le_of_ble_eq_true rfl)
  rw [lg_entry_eq]
  generalize (lg_sl ([.ref h0]) ++ List.replicate (1 - (lg_sl ([.ref h0])).length) Slot.unset).toArray = ls at hl ⊢
  have hl : lv_has ls 1 [(0, .ref h0)] := hl
  show W p l e ({ frames := 0, cells := 0, slots := 0, locals := 0 } : Room) s m ([.ref h0] : List Value).toArray below meth c s.heap [] 0 0 Qg (F0 m 0 ls [])
  refine lv_aload_n hx hb d_TB_endSet_0 rfl (lv_at hl 0 rfl) ?_
  refine va_get (D := (dC, dI)) (ci := 0) (v := .ref sg) (C := R_TB) (T := F_TB) (N := 19) hx hb hts i_TB hown hK hP 0 rfl rfl 9 (by decide) (hts _ m_119) (fun _ h9 => h9) rfl d_TB_endSet_1 ?_
  refine lv_iconst (v := (nI 0)) hx hb d_TB_endSet_4 (by decide +kernel) ?_
  refine va_put (D := (dC, dI)) (ci := 2) (v := .int (nI 0)) (ty := .int) (C := R_Sig) (T := F_Sig) (N := 7) hx hb hts i_Sig t_Sig t_Sig_ok n_Sig hown hK hP hD hS 1 rfl rfl 0 (by decide) (hts _ m_168) (fun _ h9 => h9) rfl (by decide +kernel) rfl rfl (Nat.le_of_ble_eq_true rfl) d_TB_endSet_5 (fun H locs hP hD hS => ?_)
  have hP : va_P (dC, dI) CL [(h0, .inr (0, [o0, o1, o2, o3, o4, o5, o6, o7, o8, .ref sg, o10, o11, o12, o13, o14, o15, o16, o17, o18])), (sg, .inr (2, [.int (nI 0), .int s1, g2, g3, g4, g5, g6]))] H := hP
  have hD : va_D A [(h0, .inr (0, [o0, o1, o2, o3, o4, o5, o6, o7, o8, .ref sg, o10, o11, o12, o13, o14, o15, o16, o17, o18])), (sg, .inr (2, [.int (nI 0), .int s1, g2, g3, g4, g5, g6]))] := hD
  refine lv_aload_n hx hb d_TB_endSet_8 rfl (lv_at hl 0 rfl) ?_
  refine va_get (D := (dC, dI)) (ci := 0) (v := .ref sg) (C := R_TB) (T := F_TB) (N := 19) hx hb hts i_TB hown hK hP 0 rfl rfl 9 (by decide) (hts _ m_119) (fun _ h9 => h9) rfl d_TB_endSet_9 ?_
  refine lv_iconst (v := (nI 0)) hx hb d_TB_endSet_12 (by decide +kernel) ?_
  refine va_put (D := (dC, dI)) (ci := 2) (v := .int (nI 0)) (ty := .int) (C := R_Sig) (T := F_Sig) (N := 7) hx hb hts i_Sig t_Sig t_Sig_ok n_Sig hown hK hP hD hS 1 rfl rfl 1 (by decide) (hts _ m_169) (fun _ h9 => h9) rfl (by decide +kernel) rfl rfl (Nat.le_of_ble_eq_true rfl) d_TB_endSet_13 (fun H locs hP hD hS => ?_)
  have hP : va_P (dC, dI) CL [(h0, .inr (0, [o0, o1, o2, o3, o4, o5, o6, o7, o8, .ref sg, o10, o11, o12, o13, o14, o15, o16, o17, o18])), (sg, .inr (2, [.int (nI 0), .int (nI 0), g2, g3, g4, g5, g6]))] H := hP
  have hD : va_D A [(h0, .inr (0, [o0, o1, o2, o3, o4, o5, o6, o7, o8, .ref sg, o10, o11, o12, o13, o14, o15, o16, o17, o18])), (sg, .inr (2, [.int (nI 0), .int (nI 0), g2, g3, g4, g5, g6]))] := hD
  have hP9 := hP.sub (ws' := [(h0, .inr (0, [o0, o1, o2, o3, o4, o5, o6, o7, o8, .ref sg, o10, o11, o12, o13, o14, o15, o16, o17, o18])), (sg, .inr (2, [.int (nI 0), .int (nI 0), g2, g3, g4, g5, g6]))]) [0, 1] rfl
  have hD9 := hD.sub (ws' := [(h0, .inr (0, [o0, o1, o2, o3, o4, o5, o6, o7, o8, .ref sg, o10, o11, o12, o13, o14, o15, o16, o17, o18])), (sg, .inr (2, [.int (nI 0), .int (nI 0), g2, g3, g4, g5, g6]))]) [0, 1] (by decide) rfl
  have hK9 := hK.sub (tys' := []) [] rfl
  rw [hQg]
  exact W.vret hx hb hr (fun t ht hW => ⟨⟨(), rfl, trivial, by rw [ht]; exact hP9, va_K.moved hW.alike hK9, hD9⟩, hS.F ht⟩) hS.2.2 d_TB_endSet_16

-- ThresholdBench.message
set_option maxHeartbeats 4000000 in
set_option maxRecDepth 100000 in
theorem c_TB_message (l : Launch) (dC : Nat → ClassId) (dI : Nat → Nat → Nat) (h0 : Nat) (t0 : Nat) (t1 : Nat) (t2 : Nat) (b0 : Nat) (b1 : Nat) (b2 : Nat) (sg : Nat) (g2 : Value) (g3 : Value) (g4 : Value) (g5 : Value) (g6 : Value) (o3 : Value) (o4 : Value) (o5 : Value) (o6 : Value) (o7 : Value) (o8 : Value) (o10 : Value) (o11 : Value) (o12 : Value) (o13 : Value) (o14 : Value) (o15 : Value) (o16 : Value) (o17 : Value) (o18 : Value) (sz : Nat)  : Met l y_TB_message (.code y_TB_message prog_1_method_3_code 1 (some .int) :: AW) ({ frames := 2, cells := 0, slots := 0, locals := 45 } : Room) (va_Pc [.ref h0] (pw (dC, dI) CL [(h0, .inr (0, [.ref t0, .ref t1, .ref t2, o3, o4, o5, o6, o7, o8, .ref sg, o10, o11, o12, o13, o14, o15, o16, o17, o18])), (t0, .inr (1, [.ref b0, .int (nI 0)])), (t1, .inr (1, [.ref b1, .int (nI 0)])), (t2, .inr (1, [.ref b2, .int (nI 0)])), (sg, .inr (2, [.int (nI 0), .int (nI 0), g2, g3, g4, g5, g6]))] [] sz)) (va_Qi (fun (r : Int32) (u : Unit) => r = nI 0) (fun (u : Unit) t => qw (dC, dI) CL (va_A [(h0, .inr (0, [.ref t0, .ref t1, .ref t2, o3, o4, o5, o6, o7, o8, .ref sg, o10, o11, o12, o13, o14, o15, o16, o17, o18])), (t0, .inr (1, [.ref b0, .int (nI 0)])), (t1, .inr (1, [.ref b1, .int (nI 0)])), (t2, .inr (1, [.ref b2, .int (nI 0)])), (sg, .inr (2, [.int (nI 0), .int (nI 0), g2, g3, g4, g5, g6]))] sz) ((fun _ : Unit => []) u) ((fun _ : Unit => []) u) t) (va_A [(h0, .inr (0, [.ref t0, .ref t1, .ref t2, o3, o4, o5, o6, o7, o8, .ref sg, o10, o11, o12, o13, o14, o15, o16, o17, o18])), (t0, .inr (1, [.ref b0, .int (nI 0)])), (t1, .inr (1, [.ref b1, .int (nI 0)])), (t2, .inr (1, [.ref b2, .int (nI 0)])), (sg, .inr (2, [.int (nI 0), .int (nI 0), g2, g3, g4, g5, g6]))] sz)) 0 0 (va_A [(h0, .inr (0, [.ref t0, .ref t1, .ref t2, o3, o4, o5, o6, o7, o8, .ref sg, o10, o11, o12, o13, o14, o15, o16, o17, o18])), (t0, .inr (1, [.ref b0, .int (nI 0)])), (t1, .inr (1, [.ref b1, .int (nI 0)])), (t2, .inr (1, [.ref b2, .int (nI 0)])), (sg, .inr (2, [.int (nI 0), .int (nI 0), g2, g3, g4, g5, g6]))] sz) := by
  refine Met.ofW (cc := prog_1_method_3_code) (maxL := 1) (ret := (some .int)) (by decide) rfl ?_
  intro p e s m args below meth c s₁ B hml hv
  obtain ⟨rfl, hsz, hP, hK, hD0, hZ, hN⟩ := hv
  have hx := B.exec
  have hb := B.bytes
  have hr := B.returns
  have hts := kw (atoms_spec (ws := .code y_TB_message prog_1_method_3_code 1 (some .int) :: AW) B.pre)
  have hown : s.vm.findClass R_TB = some m.cls := findClass_of_methodNamed B.named
  have hlocks := B.notSynchronized
  subst hsz
  have hD := hD0.self (sz := s.heap.size)
  obtain ⟨Qg, hQg⟩ : ∃ q, q = MQ below (va_Qi (fun (r : Int32) (u : Unit) => r = nI 0) (fun (u : Unit) t => qw (dC, dI) CL (va_A [(h0, .inr (0, [.ref t0, .ref t1, .ref t2, o3, o4, o5, o6, o7, o8, .ref sg, o10, o11, o12, o13, o14, o15, o16, o17, o18])), (t0, .inr (1, [.ref b0, .int (nI 0)])), (t1, .inr (1, [.ref b1, .int (nI 0)])), (t2, .inr (1, [.ref b2, .int (nI 0)])), (sg, .inr (2, [.int (nI 0), .int (nI 0), g2, g3, g4, g5, g6]))] s.heap.size) ((fun _ : Unit => []) u) ((fun _ : Unit => []) u) t) (va_A [(h0, .inr (0, [.ref t0, .ref t1, .ref t2, o3, o4, o5, o6, o7, o8, .ref sg, o10, o11, o12, o13, o14, o15, o16, o17, o18])), (t0, .inr (1, [.ref b0, .int (nI 0)])), (t1, .inr (1, [.ref b1, .int (nI 0)])), (t2, .inr (1, [.ref b2, .int (nI 0)])), (sg, .inr (2, [.int (nI 0), .int (nI 0), g2, g3, g4, g5, g6]))] s.heap.size)) ([.ref h0] : List Value).toArray s 0 0 (va_A [(h0, .inr (0, [.ref t0, .ref t1, .ref t2, o3, o4, o5, o6, o7, o8, .ref sg, o10, o11, o12, o13, o14, o15, o16, o17, o18])), (t0, .inr (1, [.ref b0, .int (nI 0)])), (t1, .inr (1, [.ref b1, .int (nI 0)])), (t2, .inr (1, [.ref b2, .int (nI 0)])), (sg, .inr (2, [.int (nI 0), .int (nI 0), g2, g3, g4, g5, g6]))] s.heap.size) := ⟨_, rfl⟩
  rw [← hQg]
  generalize hAe : va_A [(h0, .inr (0, [.ref t0, .ref t1, .ref t2, o3, o4, o5, o6, o7, o8, .ref sg, o10, o11, o12, o13, o14, o15, o16, o17, o18])), (t0, .inr (1, [.ref b0, .int (nI 0)])), (t1, .inr (1, [.ref b1, .int (nI 0)])), (t2, .inr (1, [.ref b2, .int (nI 0)])), (sg, .inr (2, [.int (nI 0), .int (nI 0), g2, g3, g4, g5, g6]))] s.heap.size = A at hD hZ hQg
  have hA : ∀ q : Nat, s.heap.size ≤ q → A q := fun q h => by rw [← hAe]; exact Or.inr h
  have hS : va_S A s.heap s.heap [] := va_S.rf
  have hP : va_P (dC, dI) CL [(h0, .inr (0, [.ref t0, .ref t1, .ref t2, o3, o4, o5, o6, o7, o8, .ref sg, o10, o11, o12, o13, o14, o15, o16, o17, o18])), (t0, .inr (1, [.ref b0, .int (nI 0)])), (t1, .inr (1, [.ref b1, .int (nI 0)])), (t2, .inr (1, [.ref b2, .int (nI 0)])), (sg, .inr (2, [.int (nI 0), .int (nI 0), g2, g3, g4, g5, g6]))] s.heap := hP
  have hl := lv_entry ([.ref h0]) (n := 1) (Nat.le_of_ble_eq_true rfl)
  rw [lg_entry_eq]
  generalize (lg_sl ([.ref h0]) ++ List.replicate (1 - (lg_sl ([.ref h0])).length) Slot.unset).toArray = ls at hl ⊢
  have hl : lv_has ls 1 [(0, .ref h0)] := hl
  show W p l e ({ frames := 2, cells := 0, slots := 0, locals := 45 } : Room) s m ([.ref h0] : List Value).toArray below meth c s.heap [] 0 0 Qg (F0 m 0 ls [])
  refine lv_aload_n hx hb d_TB_message_0 rfl (lv_at hl 0 rfl) ?_
  refine va_get (D := (dC, dI)) (ci := 0) (v := .ref t0) (C := R_TB) (T := F_TB) (N := 19) hx hb hts i_TB hown hK hP 0 rfl rfl 0 (by decide) (hts _ m_105) (fun _ h9 => h9) rfl d_TB_message_1 ?_
  refine va_get (D := (dC, dI)) (ci := 1) (v := .int (nI 0)) (C := R_Row) (T := F_Row) (N := 2) hx hb hts i_Row hown hK hP 1 rfl rfl 1 (by decide) (hts _ m_158) (fun _ h9 => h9) rfl d_TB_message_4 ?_
  refine lv_bipush (v := (nI 100)) hx hb d_TB_message_7 (by decide +kernel) ?_
  refine lv_icmp_le (tgt := 20) hx hb d_TB_message_9 (by decide) (fun c9 => ?_) (fun c9 => absurd (by decide) c9)
  refine lv_aload_n hx hb d_TB_message_20 rfl (lv_at hl 0 rfl) ?_
  refine k_finv (wr := [(t2, .inr (1, [.ref b2, .int (nI 0)])), (sg, .inr (2, [.int (nI 0), .int (nI 0), g2, g3, g4, g5, g6]))]) [0, 1, 2] [3, 4] (k_runV (n := 0) (As := []) (rest := []) (wc := [(h0, .inr (0, [.ref t0, .ref t1, .ref t2, o3, o4, o5, o6, o7, o8, .ref sg, o10, o11, o12, o13, o14, o15, o16, o17, o18])), (t0, .inr (1, [.ref b0, .int (nI 0)])), (t1, .inr (1, [.ref b1, .int (nI 0)]))]) ⟨hx, hb, hml, hown, hts⟩ (c_TB_takeTape l dC dI h0 t0 t1 (.ref b0) (.int (nI 0)) b1 (nI 0) (.ref t2) o3 o4 o5 o6 o7 o8 (.ref sg) o10 o11 o12 o13 o14 o15 o16 o17 o18 _ ) (kg_V m_171 m_172 m_173 m_163 (kg_code m_170)) (by decide +kernel) rfl rfl ⟨Nat.le_of_ble_eq_true rfl, Nat.le_of_ble_eq_true rfl⟩ [0, 1, 2] [] hP hD hK hS hA hZ hN (by rfl) (by decide) (by rfl) rfl rfl rfl rfl hl.1 rfl (Nat.le_of_ble_eq_true rfl) d_TB_message_21 ⟨(Nat.le_of_ble_eq_true rfl), (Nat.le_of_ble_eq_true rfl)⟩) hP hD hK hS hA (by rfl) (by rfl) (by decide) (by decide) (fun u9 H locs hw_2 hP hD hK hS => ?_)
  try dsimp only at hw_2
  have hP : va_P (dC, dI) CL [(t2, .inr (1, [.ref b2, .int (nI 0)])), (sg, .inr (2, [.int (nI 0), .int (nI 0), g2, g3, g4, g5, g6])), (h0, .inr (0, [.ref t1, .ref t0, .ref t2, o3, o4, o5, o6, o7, o8, .ref sg, o10, o11, o12, o13, o14, o15, o16, o17, o18])), (t0, .inr (1, [.ref b0, .int (nI 0)])), (t1, .inr (1, [.ref b1, .int (nI 0)]))] H := hP
  have hD : va_D A [(t2, .inr (1, [.ref b2, .int (nI 0)])), (sg, .inr (2, [.int (nI 0), .int (nI 0), g2, g3, g4, g5, g6])), (h0, .inr (0, [.ref t1, .ref t0, .ref t2, o3, o4, o5, o6, o7, o8, .ref sg, o10, o11, o12, o13, o14, o15, o16, o17, o18])), (t0, .inr (1, [.ref b0, .int (nI 0)])), (t1, .inr (1, [.ref b1, .int (nI 0)]))] := hD
  have hK : va_K (dC, dI) CL [] s := hK
  refine lv_aload_n hx hb d_TB_message_24 rfl (lv_at hl 0 rfl) ?_
  refine va_get (D := (dC, dI)) (ci := 0) (v := .ref t2) (C := R_TB) (T := F_TB) (N := 19) hx hb hts i_TB hown hK hP 2 rfl rfl 2 (by decide) (hts _ m_107) (fun _ h9 => h9) rfl d_TB_message_25 ?_
  refine k_finv (wr := [(sg, .inr (2, [.int (nI 0), .int (nI 0), g2, g3, g4, g5, g6])), (h0, .inr (0, [.ref t1, .ref t0, .ref t2, o3, o4, o5, o6, o7, o8, .ref sg, o10, o11, o12, o13, o14, o15, o16, o17, o18])), (t0, .inr (1, [.ref b0, .int (nI 0)])), (t1, .inr (1, [.ref b1, .int (nI 0)]))]) [0] [1, 2, 3, 4] (k_runV (n := 0) (As := []) (rest := []) (wc := [(t2, .inr (1, [.ref b2, .int (nI 0)]))]) ⟨hx, hb, hml, hown, hts⟩ (c_Row_clear l dC dI t2 b2 (nI 0) _ ) (kg_V m_165 m_166 m_167 m_10 (kg_code m_164)) (by decide +kernel) rfl rfl ⟨Nat.le_of_ble_eq_true rfl, Nat.le_of_ble_eq_true rfl⟩ [0] [] hP hD hK hS hA hZ hN (by rfl) (by decide) (by rfl) rfl rfl rfl rfl hl.1 rfl (Nat.le_of_ble_eq_true rfl) d_TB_message_28 ⟨(Nat.le_of_ble_eq_true rfl), (Nat.le_of_ble_eq_true rfl)⟩) hP hD hK hS hA (by rfl) (by rfl) (by decide) (by decide) (fun u9 H locs hw_4 hP hD hK hS => ?_)
  try dsimp only at hw_4
  have hP : va_P (dC, dI) CL [(sg, .inr (2, [.int (nI 0), .int (nI 0), g2, g3, g4, g5, g6])), (h0, .inr (0, [.ref t1, .ref t0, .ref t2, o3, o4, o5, o6, o7, o8, .ref sg, o10, o11, o12, o13, o14, o15, o16, o17, o18])), (t0, .inr (1, [.ref b0, .int (nI 0)])), (t1, .inr (1, [.ref b1, .int (nI 0)])), (t2, .inr (1, [.ref b2, .int (nI 0)]))] H := hP
  have hD : va_D A [(sg, .inr (2, [.int (nI 0), .int (nI 0), g2, g3, g4, g5, g6])), (h0, .inr (0, [.ref t1, .ref t0, .ref t2, o3, o4, o5, o6, o7, o8, .ref sg, o10, o11, o12, o13, o14, o15, o16, o17, o18])), (t0, .inr (1, [.ref b0, .int (nI 0)])), (t1, .inr (1, [.ref b1, .int (nI 0)])), (t2, .inr (1, [.ref b2, .int (nI 0)]))] := hD
  have hK : va_K (dC, dI) CL [] s := hK
  refine lv_aload_n hx hb d_TB_message_31 rfl (lv_at hl 0 rfl) ?_
  refine va_get (D := (dC, dI)) (ci := 0) (v := .ref t2) (C := R_TB) (T := F_TB) (N := 19) hx hb hts i_TB hown hK hP 1 rfl rfl 2 (by decide) (hts _ m_107) (fun _ h9 => h9) rfl d_TB_message_32 ?_
  refine lv_aload_n hx hb d_TB_message_35 rfl (lv_at hl 0 rfl) ?_
  refine va_get (D := (dC, dI)) (ci := 0) (v := .ref t0) (C := R_TB) (T := F_TB) (N := 19) hx hb hts i_TB hown hK hP 1 rfl rfl 1 (by decide) (hts _ m_106) (fun _ h9 => h9) rfl d_TB_message_36 ?_
  refine k_finv (wr := [(sg, .inr (2, [.int (nI 0), .int (nI 0), g2, g3, g4, g5, g6])), (h0, .inr (0, [.ref t1, .ref t0, .ref t2, o3, o4, o5, o6, o7, o8, .ref sg, o10, o11, o12, o13, o14, o15, o16, o17, o18])), (t1, .inr (1, [.ref b1, .int (nI 0)]))]) [4, 2] [0, 1, 3] (k_runV (n := 1) (As := [.ref t0]) (rest := []) (wc := [(t2, .inr (1, [.ref b2, .int (nI 0)])), (t0, .inr (1, [.ref b0, .int (nI 0)]))]) ⟨hx, hb, hml, hown, hts⟩ (c_Row_putRow l dC dI t2 t0 (.ref b2) (.int (nI 0)) (.ref b0) _ ) (kg_V m_175 m_176 m_177 m_10 (kg_code m_174)) (by decide +kernel) rfl rfl ⟨Nat.le_of_ble_eq_true rfl, Nat.le_of_ble_eq_true rfl⟩ [4, 2] [] hP hD hK hS hA hZ hN (by rfl) (by decide) (by rfl) rfl rfl rfl rfl hl.1 rfl (Nat.le_of_ble_eq_true rfl) d_TB_message_39 ⟨(Nat.le_of_ble_eq_true rfl), (Nat.le_of_ble_eq_true rfl)⟩) hP hD hK hS hA (by rfl) (by rfl) (by decide) (by decide) (fun u9 H locs hw_6 hP hD hK hS => ?_)
  try dsimp only at hw_6
  have hP : va_P (dC, dI) CL [(sg, .inr (2, [.int (nI 0), .int (nI 0), g2, g3, g4, g5, g6])), (h0, .inr (0, [.ref t1, .ref t0, .ref t2, o3, o4, o5, o6, o7, o8, .ref sg, o10, o11, o12, o13, o14, o15, o16, o17, o18])), (t1, .inr (1, [.ref b1, .int (nI 0)])), (t2, .inr (1, [.ref b2, .int (nI 0)])), (t0, .inr (1, [.ref b0, .int (nI 0)]))] H := hP
  have hD : va_D A [(sg, .inr (2, [.int (nI 0), .int (nI 0), g2, g3, g4, g5, g6])), (h0, .inr (0, [.ref t1, .ref t0, .ref t2, o3, o4, o5, o6, o7, o8, .ref sg, o10, o11, o12, o13, o14, o15, o16, o17, o18])), (t1, .inr (1, [.ref b1, .int (nI 0)])), (t2, .inr (1, [.ref b2, .int (nI 0)])), (t0, .inr (1, [.ref b0, .int (nI 0)]))] := hD
  have hK : va_K (dC, dI) CL [] s := hK
  refine lv_aload_n hx hb d_TB_message_42 rfl (lv_at hl 0 rfl) ?_
  refine k_finv (wr := [(t1, .inr (1, [.ref b1, .int (nI 0)])), (t2, .inr (1, [.ref b2, .int (nI 0)])), (t0, .inr (1, [.ref b0, .int (nI 0)]))]) [1, 0] [2, 3, 4] (k_runV (n := 0) (As := []) (rest := []) (wc := [(h0, .inr (0, [.ref t1, .ref t0, .ref t2, o3, o4, o5, o6, o7, o8, .ref sg, o10, o11, o12, o13, o14, o15, o16, o17, o18])), (sg, .inr (2, [.int (nI 0), .int (nI 0), g2, g3, g4, g5, g6]))]) ⟨hx, hb, hml, hown, hts⟩ (c_TB_endSet l dC dI h0 sg (nI 0) (nI 0) g2 g3 g4 g5 g6 (.ref t1) (.ref t0) (.ref t2) o3 o4 o5 o6 o7 o8 o10 o11 o12 o13 o14 o15 o16 o17 o18 _ ) (kg_V m_179 m_180 m_181 m_163 (kg_code m_178)) (by decide +kernel) rfl rfl ⟨Nat.le_of_ble_eq_true rfl, Nat.le_of_ble_eq_true rfl⟩ [1, 0] [] hP hD hK hS hA hZ hN (by rfl) (by decide) (by rfl) rfl rfl rfl rfl hl.1 rfl (Nat.le_of_ble_eq_true rfl) d_TB_message_43 ⟨(Nat.le_of_ble_eq_true rfl), (Nat.le_of_ble_eq_true rfl)⟩) hP hD hK hS hA (by rfl) (by rfl) (by decide) (by decide) (fun u9 H locs hw_8 hP hD hK hS => ?_)
  try dsimp only at hw_8
  have hP : va_P (dC, dI) CL [(t1, .inr (1, [.ref b1, .int (nI 0)])), (t2, .inr (1, [.ref b2, .int (nI 0)])), (t0, .inr (1, [.ref b0, .int (nI 0)])), (h0, .inr (0, [.ref t1, .ref t0, .ref t2, o3, o4, o5, o6, o7, o8, .ref sg, o10, o11, o12, o13, o14, o15, o16, o17, o18])), (sg, .inr (2, [.int (nI 0), .int (nI 0), g2, g3, g4, g5, g6]))] H := hP
  have hD : va_D A [(t1, .inr (1, [.ref b1, .int (nI 0)])), (t2, .inr (1, [.ref b2, .int (nI 0)])), (t0, .inr (1, [.ref b0, .int (nI 0)])), (h0, .inr (0, [.ref t1, .ref t0, .ref t2, o3, o4, o5, o6, o7, o8, .ref sg, o10, o11, o12, o13, o14, o15, o16, o17, o18])), (sg, .inr (2, [.int (nI 0), .int (nI 0), g2, g3, g4, g5, g6]))] := hD
  have hK : va_K (dC, dI) CL [] s := hK
  refine lv_aload_n hx hb d_TB_message_46 rfl (lv_at hl 0 rfl) ?_
  refine va_get (D := (dC, dI)) (ci := 0) (v := .ref t2) (C := R_TB) (T := F_TB) (N := 19) hx hb hts i_TB hown hK hP 3 rfl rfl 2 (by decide) (hts _ m_107) (fun _ h9 => h9) rfl d_TB_message_47 ?_
  refine va_get (D := (dC, dI)) (ci := 1) (v := .int (nI 0)) (C := R_Row) (T := F_Row) (N := 2) hx hb hts i_Row hown hK hP 1 rfl rfl 1 (by decide) (hts _ m_158) (fun _ h9 => h9) rfl d_TB_message_50 ?_
  have hP9 := hP.sub (ws' := []) [] rfl
  have hD9 := hD.sub (ws' := []) [] (by decide) rfl
  have hK9 := hK.sub (tys' := []) [] rfl
  rw [hQg]
  exact W.iret (v := (nI 0)) hx hb hr (fun t ht hW => ⟨⟨(nI 0), (), rfl, rfl, by rw [ht]; exact hP9, va_K.moved hW.alike hK9, hD9⟩, hS.F ht⟩) hS.2.2 d_TB_message_53
