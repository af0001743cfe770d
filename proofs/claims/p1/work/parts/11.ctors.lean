-- ThresholdBench$Point.<init>
set_option maxHeartbeats 4000000 in
set_option maxRecDepth 100000 in
theorem c_Poi_init (l : Launch) (dC : Nat → ClassId) (dI : Nat → Nat → Nat) (h0 : Nat) (sz : Nat)  : Met l y_Poi_init (.code y_Poi_init prog_6_method_1_code 1 (none) :: AW) ({ frames := 1, cells := 3, slots := 30, locals := 12 } : Room) (va_Pc [.ref h0] (pw (dC, dI) CL [(h0, .inr (6, [.null, .null, .null, .int (nI 0)]))] [] sz)) (va_Qv (fun u : Nat × Nat × Nat => True) (fun (u : Nat × Nat × Nat) t => qw (dC, dI) CL (va_A [(h0, .inr (6, [.null, .null, .null, .int (nI 0)]))] sz) ((fun u : Nat × Nat × Nat => [(h0, .inr (6, [.ref u.1, .ref u.2.1, .ref u.2.2, .int (nI 1)]))]) u) ((fun u : Nat × Nat × Nat => []) u) t) (va_A [(h0, .inr (6, [.null, .null, .null, .int (nI 0)]))] sz)) 3 30 (va_A [(h0, .inr (6, [.null, .null, .null, .int (nI 0)]))] sz) := by
  refine Met.ofW (cc := prog_6_method_1_code) (maxL := 1) (ret := none) (by decide) rfl ?_
  intro p e s m args below meth c s₁ B hml hv
  obtain ⟨rfl, hsz, hP, hK, hD0, hZ, hN⟩ := hv
  have hx := B.exec
  have hb := B.bytes
  have hr := B.returns
  have hts := kw (atoms_spec (ws := .code y_Poi_init prog_6_method_1_code 1 (none) :: AW) B.pre)
  have hown : s.vm.findClass R_Poi = some m.cls := findClass_of_methodNamed B.named
  have hlocks := B.notSynchronized
  have hin : meth.name = "<init>" := (name_of_methodNamed B.named B.method).1
  subst hsz
  have hD := hD0.self (sz := s.heap.size)
  obtain ⟨Qg, hQg⟩ : ∃ q, q = MQ below (va_Qv (fun u : Nat × Nat × Nat => True) (fun (u : Nat × Nat × Nat) t => qw (dC, dI) CL (va_A [(h0, .inr (6, [.null, .null, .null, .int (nI 0)]))] s.heap.size) ((fun u : Nat × Nat × Nat => [(h0, .inr (6, [.ref u.1, .ref u.2.1, .ref u.2.2, .int (nI 1)]))]) u) ((fun u : Nat × Nat × Nat => []) u) t) (va_A [(h0, .inr (6, [.null, .null, .null, .int (nI 0)]))] s.heap.size)) ([.ref h0] : List Value).toArray s 3 30 (va_A [(h0, .inr (6, [.null, .null, .null, .int (nI 0)]))] s.heap.size) := ⟨_, rfl⟩
  rw [← hQg]
  generalize hAe : va_A [(h0, .inr (6, [.null, .null, .null, .int (nI 0)]))] s.heap.size = A at hD hZ hQg
  have hA : ∀ q : Nat, s.heap.size ≤ q → A q := fun q h => by rw [← hAe]; exact Or.inr h
  have hS : va_S A s.heap s.heap [] := va_S.rf
  have hP : va_P (dC, dI) CL [(h0, .inr (6, [.null, .null, .null, .int (nI 0)]))] s.heap := hP
  have hl := lv_entry ([.ref h0]) (n := 1) (Nat.le_of_ble_eq_true rfl)
  rw [lg_entry_eq]
  generalize (lg_sl ([.ref h0]) ++ List.replicate (1 - (lg_sl ([.ref h0])).length) Slot.unset).toArray = ls at hl ⊢
  have hl : lv_has ls 1 [(0, .ref h0)] := hl
  show W p l e ({ frames := 1, cells := 3, slots := 30, locals := 12 } : Room) s m ([.ref h0] : List Value).toArray below meth c s.heap [] 0 0 Qg (F0 m 0 ls [])
  refine lv_aload_n hx hb d_Poi_init_0 rfl (lv_at hl 0 rfl) ?_
  refine W.objInit hx hb hown (hts _ m_11) (hts _ m_1) (hts _ m_2) rfl (by rw [hml]; exact hl.1) rfl d_Poi_init_1 (Nat.le_of_ble_eq_true rfl) (Nat.le_of_ble_eq_true rfl) ?_
  refine W.eq (g2 := F0 m 4 ls []) rfl ?_
  refine lv_aload_n hx hb d_Poi_init_4 rfl (lv_at hl 0 rfl) ?_
  refine lv_bipush (v := (nI 10)) hx hb d_Poi_init_5 (by decide +kernel) ?_
  refine va_newa (atype := .long) (ty := .long) (N' := 10) (a0 := (10, .inr (.inl (fun _ => 0)))) hx hb (hts _ m_12) rfl hK hP hD hS hA (fun _ => rfl) (nI_pos (by omega)) (nI_clamp (by omega)) (by decide) (Nat.le_of_ble_eq_true rfl) (Nat.le_of_ble_eq_true rfl) d_Poi_init_7 (fun q_1 k_2 H hK hP hD hS => ?_)
  have hP : va_P (dC, dI) CL [(h0, .inr (6, [.null, .null, .null, .int (nI 0)])), (q_1, .inl (k_2, 10, .inr (.inl (fun _ => 0))))] H := hP
  have hD : va_D A [(h0, .inr (6, [.null, .null, .null, .int (nI 0)])), (q_1, .inl (k_2, 10, .inr (.inl (fun _ => 0))))] := hD
  refine va_putF (D := (dC, dI)) (ci := 6) (v := .ref q_1) (ty := (.array .long)) (C := R_Poi) (T := F_Poi) (N := 4) hx hb hts i_Poi t_Poi t_Poi_ok n_Poi hown hK hP hD hS 0 rfl rfl 0 (by decide) (hts _ m_13) (fun _ h9 => h9) rfl hin rfl (by decide +kernel) rfl rfl (Nat.le_of_ble_eq_true rfl) d_Poi_init_9 (fun H locs hP hD hS => ?_)
  have hP : va_P (dC, dI) CL [(h0, .inr (6, [.ref q_1, .null, .null, .int (nI 0)])), (q_1, .inl (k_2, 10, .inr (.inl (fun _ => 0))))] H := hP
  have hD : va_D A [(h0, .inr (6, [.ref q_1, .null, .null, .int (nI 0)])), (q_1, .inl (k_2, 10, .inr (.inl (fun _ => 0))))] := hD
  refine lv_aload_n hx hb d_Poi_init_12 rfl (lv_at hl 0 rfl) ?_
  refine lv_bipush (v := (nI 10)) hx hb d_Poi_init_13 (by decide +kernel) ?_
  refine va_newa (atype := .long) (ty := .long) (N' := 10) (a0 := (10, .inr (.inl (fun _ => 0)))) hx hb (hts _ m_12) rfl hK hP hD hS hA (fun _ => rfl) (nI_pos (by omega)) (nI_clamp (by omega)) (by decide) (Nat.le_of_ble_eq_true rfl) (Nat.le_of_ble_eq_true rfl) d_Poi_init_15 (fun q_3 k_4 H hK hP hD hS => ?_)
  have hP : va_P (dC, dI) CL [(h0, .inr (6, [.ref q_1, .null, .null, .int (nI 0)])), (q_1, .inl (k_2, 10, .inr (.inl (fun _ => 0)))), (q_3, .inl (k_4, 10, .inr (.inl (fun _ => 0))))] H := hP
  have hD : va_D A [(h0, .inr (6, [.ref q_1, .null, .null, .int (nI 0)])), (q_1, .inl (k_2, 10, .inr (.inl (fun _ => 0)))), (q_3, .inl (k_4, 10, .inr (.inl (fun _ => 0))))] := hD
  refine va_putF (D := (dC, dI)) (ci := 6) (v := .ref q_3) (ty := (.array .long)) (C := R_Poi) (T := F_Poi) (N := 4) hx hb hts i_Poi t_Poi t_Poi_ok n_Poi hown hK hP hD hS 0 rfl rfl 1 (by decide) (hts _ m_14) (fun _ h9 => h9) rfl hin rfl (by decide +kernel) rfl rfl (Nat.le_of_ble_eq_true rfl) d_Poi_init_17 (fun H locs hP hD hS => ?_)
  have hP : va_P (dC, dI) CL [(h0, .inr (6, [.ref q_1, .ref q_3, .null, .int (nI 0)])), (q_1, .inl (k_2, 10, .inr (.inl (fun _ => 0)))), (q_3, .inl (k_4, 10, .inr (.inl (fun _ => 0))))] H := hP
  have hD : va_D A [(h0, .inr (6, [.ref q_1, .ref q_3, .null, .int (nI 0)])), (q_1, .inl (k_2, 10, .inr (.inl (fun _ => 0)))), (q_3, .inl (k_4, 10, .inr (.inl (fun _ => 0))))] := hD
  refine lv_aload_n hx hb d_Poi_init_20 rfl (lv_at hl 0 rfl) ?_
  refine lv_bipush (v := (nI 10)) hx hb d_Poi_init_21 (by decide +kernel) ?_
  refine va_newa (atype := .long) (ty := .long) (N' := 10) (a0 := (10, .inr (.inl (fun _ => 0)))) hx hb (hts _ m_12) rfl hK hP hD hS hA (fun _ => rfl) (nI_pos (by omega)) (nI_clamp (by omega)) (by decide) (Nat.le_of_ble_eq_true rfl) (Nat.le_of_ble_eq_true rfl) d_Poi_init_23 (fun q_5 k_6 H hK hP hD hS => ?_)
  have hP : va_P (dC, dI) CL [(h0, .inr (6, [.ref q_1, .ref q_3, .null, .int (nI 0)])), (q_1, .inl (k_2, 10, .inr (.inl (fun _ => 0)))), (q_3, .inl (k_4, 10, .inr (.inl (fun _ => 0)))), (q_5, .inl (k_6, 10, .inr (.inl (fun _ => 0))))] H := hP
  have hD : va_D A [(h0, .inr (6, [.ref q_1, .ref q_3, .null, .int (nI 0)])), (q_1, .inl (k_2, 10, .inr (.inl (fun _ => 0)))), (q_3, .inl (k_4, 10, .inr (.inl (fun _ => 0)))), (q_5, .inl (k_6, 10, .inr (.inl (fun _ => 0))))] := hD
  refine va_putF (D := (dC, dI)) (ci := 6) (v := .ref q_5) (ty := (.array .long)) (C := R_Poi) (T := F_Poi) (N := 4) hx hb hts i_Poi t_Poi t_Poi_ok n_Poi hown hK hP hD hS 0 rfl rfl 2 (by decide) (hts _ m_15) (fun _ h9 => h9) rfl hin rfl (by decide +kernel) rfl rfl (Nat.le_of_ble_eq_true rfl) d_Poi_init_25 (fun H locs hP hD hS => ?_)
  have hP : va_P (dC, dI) CL [(h0, .inr (6, [.ref q_1, .ref q_3, .ref q_5, .int (nI 0)])), (q_1, .inl (k_2, 10, .inr (.inl (fun _ => 0)))), (q_3, .inl (k_4, 10, .inr (.inl (fun _ => 0)))), (q_5, .inl (k_6, 10, .inr (.inl (fun _ => 0))))] H := hP
  have hD : va_D A [(h0, .inr (6, [.ref q_1, .ref q_3, .ref q_5, .int (nI 0)])), (q_1, .inl (k_2, 10, .inr (.inl (fun _ => 0)))), (q_3, .inl (k_4, 10, .inr (.inl (fun _ => 0)))), (q_5, .inl (k_6, 10, .inr (.inl (fun _ => 0))))] := hD
  refine lv_aload_n hx hb d_Poi_init_28 rfl (lv_at hl 0 rfl) ?_
  refine lv_iconst (v := (nI 1)) hx hb d_Poi_init_29 (by decide +kernel) ?_
  refine va_put (D := (dC, dI)) (ci := 6) (v := .int (nI 1)) (ty := .boolean) (C := R_Poi) (T := F_Poi) (N := 4) hx hb hts i_Poi t_Poi t_Poi_ok n_Poi hown hK hP hD hS 0 rfl rfl 3 (by decide) (hts _ m_16) (fun _ h9 => h9) rfl (by decide +kernel) rfl rfl (Nat.le_of_ble_eq_true rfl) d_Poi_init_30 (fun H locs hP hD hS => ?_)
  have hP : va_P (dC, dI) CL [(h0, .inr (6, [.ref q_1, .ref q_3, .ref q_5, .int (nI 1)])), (q_1, .inl (k_2, 10, .inr (.inl (fun _ => 0)))), (q_3, .inl (k_4, 10, .inr (.inl (fun _ => 0)))), (q_5, .inl (k_6, 10, .inr (.inl (fun _ => 0))))] H := hP
  have hD : va_D A [(h0, .inr (6, [.ref q_1, .ref q_3, .ref q_5, .int (nI 1)])), (q_1, .inl (k_2, 10, .inr (.inl (fun _ => 0)))), (q_3, .inl (k_4, 10, .inr (.inl (fun _ => 0)))), (q_5, .inl (k_6, 10, .inr (.inl (fun _ => 0))))] := hD
  have hP9 := hP.sub (ws' := [(h0, .inr (6, [.ref q_1, .ref q_3, .ref q_5, .int (nI 1)]))]) [0] rfl
  have hD9 := hD.sub (ws' := [(h0, .inr (6, [.ref q_1, .ref q_3, .ref q_5, .int (nI 1)]))]) [0] (by decide) rfl
  have hK9 := hK.sub (tys' := []) [] rfl
  rw [hQg]
  exact W.vret hx hb hr (fun t ht hW => ⟨⟨(q_1, q_3, q_5), rfl, trivial, by rw [ht]; exact hP9, va_K.moved hW.alike hK9, hD9⟩, hS.F ht⟩) hS.2.2 d_Poi_init_33

-- ThresholdBench$Term.<init>
set_option maxHeartbeats 4000000 in
set_option maxRecDepth 100000 in
theorem c_Ter_init (l : Launch) (dC : Nat → ClassId) (dI : Nat → Nat → Nat) (h0 : Nat) (sz : Nat)  : Met l y_Ter_init (.code y_Ter_init prog_11_method_1_code 1 (none) :: AW) ({ frames := 2, cells := 5, slots := 42, locals := 32 } : Room) (va_Pc [.ref h0] (pw (dC, dI) CL [(h0, .inr (7, [.null, .null]))] [] sz)) (va_Qv (fun u : Nat × Nat => True) (fun (u : Nat × Nat) t => qw (dC, dI) CL (va_A [(h0, .inr (7, [.null, .null]))] sz) ((fun u : Nat × Nat => [(h0, .inr (7, [.ref u.1, .ref u.2]))]) u) ((fun u : Nat × Nat => []) u) t) (va_A [(h0, .inr (7, [.null, .null]))] sz)) 5 42 (va_A [(h0, .inr (7, [.null, .null]))] sz) := by
  refine Met.ofW (cc := prog_11_method_1_code) (maxL := 1) (ret := none) (by decide) rfl ?_
  intro p e s m args below meth c s₁ B hml hv
  obtain ⟨rfl, hsz, hP, hK, hD0, hZ, hN⟩ := hv
  have hx := B.exec
  have hb := B.bytes
  have hr := B.returns
  have hts := kw (atoms_spec (ws := .code y_Ter_init prog_11_method_1_code 1 (none) :: AW) B.pre)
  have hown : s.vm.findClass R_Ter = some m.cls := findClass_of_methodNamed B.named
  have hlocks := B.notSynchronized
  have hin : meth.name = "<init>" := (name_of_methodNamed B.named B.method).1
  subst hsz
  have hD := hD0.self (sz := s.heap.size)
  obtain ⟨Qg, hQg⟩ : ∃ q, q = MQ below (va_Qv (fun u : Nat × Nat => True) (fun (u : Nat × Nat) t => qw (dC, dI) CL (va_A [(h0, .inr (7, [.null, .null]))] s.heap.size) ((fun u : Nat × Nat => [(h0, .inr (7, [.ref u.1, .ref u.2]))]) u) ((fun u : Nat × Nat => []) u) t) (va_A [(h0, .inr (7, [.null, .null]))] s.heap.size)) ([.ref h0] : List Value).toArray s 5 42 (va_A [(h0, .inr (7, [.null, .null]))] s.heap.size) := ⟨_, rfl⟩
  rw [← hQg]
  generalize hAe : va_A [(h0, .inr (7, [.null, .null]))] s.heap.size = A at hD hZ hQg
  have hA : ∀ q : Nat, s.heap.size ≤ q → A q := fun q h => by rw [← hAe]; exact Or.inr h
  have hS : va_S A s.heap s.heap [] := va_S.rf
  have hP : va_P (dC, dI) CL [(h0, .inr (7, [.null, .null]))] s.heap := hP
  have hl := lv_entry ([.ref h0]) (n := 1) (Nat.le_of_ble_eq_true rfl)
  rw [lg_entry_eq]
  generalize (lg_sl ([.ref h0]) ++ List.replicate (1 - (lg_sl ([.ref h0])).length) Slot.unset).toArray = ls at hl ⊢
  have hl : lv_has ls 1 [(0, .ref h0)] := hl
  show W p l e ({ frames := 2, cells := 5, slots := 42, locals := 32 } : Room) s m ([.ref h0] : List Value).toArray below meth c s.heap [] 0 0 Qg (F0 m 0 ls [])
  refine lv_aload_n hx hb d_Ter_init_0 rfl (lv_at hl 0 rfl) ?_
  refine W.objInit hx hb hown (hts _ m_17) (hts _ m_1) (hts _ m_2) rfl (by rw [hml]; exact hl.1) rfl d_Ter_init_1 (Nat.le_of_ble_eq_true rfl) (Nat.le_of_ble_eq_true rfl) ?_
  refine W.eq (g2 := F0 m 4 ls []) rfl ?_
  refine lv_aload_n hx hb d_Ter_init_4 rfl (lv_at hl 0 rfl) ?_
  refine va_new (ci := 6) (fs := [.null, .null, .null, .int (nI 0)]) (C := R_Poi) (T := F_Poi) (N := 4) hx hb hts i_Poi t_Poi t_Poi_ok hown (hts _ m_18) (hts _ m_19) (hts _ m_20) hK hP hD hS hA rfl f_Poi (Nat.le_of_ble_eq_true rfl) (Nat.le_of_ble_eq_true rfl) d_Ter_init_5 (fun q_1 H hP hD hS => ?_)
  have hP : va_P (dC, dI) CL [(h0, .inr (7, [.null, .null])), (q_1, .inr (6, [.null, .null, .null, .int (nI 0)]))] H := hP
  have hD : va_D A [(h0, .inr (7, [.null, .null])), (q_1, .inr (6, [.null, .null, .null, .int (nI 0)]))] := hD
  refine lv_dup hx hb d_Ter_init_8 rfl ?_
  refine k_finv (wr := [(h0, .inr (7, [.null, .null]))]) [1] [0] (k_runI (n := 0) (As := []) (rest := [.ref q_1, .ref h0]) (wc := [(q_1, .inr (6, [.null, .null, .null, .int (nI 0)]))]) ⟨hx, hb, hml, hown, hts⟩ (c_Poi_init l dC dI q_1 _ ) (kg_code m_21) m_20 m_22 m_23 rfl (by decide +kernel) rfl rfl ⟨Nat.le_of_ble_eq_true rfl, Nat.le_of_ble_eq_true rfl⟩ [1] [] hP hD hK hS hA hZ hN (by rfl) (by decide) (by rfl) rfl hl.1 rfl (Nat.le_of_ble_eq_true rfl) d_Ter_init_9 ⟨(Nat.le_of_ble_eq_true rfl), (Nat.le_of_ble_eq_true rfl)⟩) hP hD hK hS hA (by rfl) (by rfl) (by decide) (by decide) (fun u9 H locs hw_6 hP hD hK hS => ?_)
  obtain ⟨a_2, b_3, d_4⟩ := u9
  try dsimp only at hw_6
  have hP : va_P (dC, dI) CL [(h0, .inr (7, [.null, .null])), (q_1, .inr (6, [.ref a_2, .ref b_3, .ref d_4, .int (nI 1)]))] H := hP
  have hD : va_D A [(h0, .inr (7, [.null, .null])), (q_1, .inr (6, [.ref a_2, .ref b_3, .ref d_4, .int (nI 1)]))] := hD
  have hK : va_K (dC, dI) CL [] s := hK
  refine va_putF (D := (dC, dI)) (ci := 7) (v := .ref q_1) (ty := (.object "ThresholdBench$Point")) (C := R_Ter) (T := F_Ter) (N := 2) hx hb hts i_Ter t_Ter t_Ter_ok n_Ter hown hK hP hD hS 0 rfl rfl 0 (by decide) (hts _ m_24) (fun _ h9 => h9) rfl hin rfl (by decide +kernel) rfl rfl (Nat.le_of_ble_eq_true rfl) d_Ter_init_12 (fun H locs hP hD hS => ?_)
  have hP : va_P (dC, dI) CL [(h0, .inr (7, [.ref q_1, .null])), (q_1, .inr (6, [.ref a_2, .ref b_3, .ref d_4, .int (nI 1)]))] H := hP
  have hD : va_D A [(h0, .inr (7, [.ref q_1, .null])), (q_1, .inr (6, [.ref a_2, .ref b_3, .ref d_4, .int (nI 1)]))] := hD
  refine lv_aload_n hx hb d_Ter_init_15 rfl (lv_at hl 0 rfl) ?_
  refine lv_bipush (v := (nI 8)) hx hb d_Ter_init_16 (by decide +kernel) ?_
  refine va_newa (atype := .int) (ty := .int) (N' := 8) (a0 := (8, .inl (fun _ => 0))) hx hb (hts _ m_25) rfl hK hP hD hS hA (fun _ => rfl) (nI_pos (by omega)) (nI_clamp (by omega)) (by decide) (Nat.le_of_ble_eq_true rfl) (Nat.le_of_ble_eq_true rfl) d_Ter_init_18 (fun q_7 k_8 H hK hP hD hS => ?_)
  have hP : va_P (dC, dI) CL [(h0, .inr (7, [.ref q_1, .null])), (q_1, .inr (6, [.ref a_2, .ref b_3, .ref d_4, .int (nI 1)])), (q_7, .inl (k_8, 8, .inl (fun _ => 0)))] H := hP
  have hD : va_D A [(h0, .inr (7, [.ref q_1, .null])), (q_1, .inr (6, [.ref a_2, .ref b_3, .ref d_4, .int (nI 1)])), (q_7, .inl (k_8, 8, .inl (fun _ => 0)))] := hD
  refine va_putF (D := (dC, dI)) (ci := 7) (v := .ref q_7) (ty := (.array .int)) (C := R_Ter) (T := F_Ter) (N := 2) hx hb hts i_Ter t_Ter t_Ter_ok n_Ter hown hK hP hD hS 0 rfl rfl 1 (by decide) (hts _ m_26) (fun _ h9 => h9) rfl hin rfl (by decide +kernel) rfl rfl (Nat.le_of_ble_eq_true rfl) d_Ter_init_20 (fun H locs hP hD hS => ?_)
  have hP : va_P (dC, dI) CL [(h0, .inr (7, [.ref q_1, .ref q_7])), (q_1, .inr (6, [.ref a_2, .ref b_3, .ref d_4, .int (nI 1)])), (q_7, .inl (k_8, 8, .inl (fun _ => 0)))] H := hP
  have hD : va_D A [(h0, .inr (7, [.ref q_1, .ref q_7])), (q_1, .inr (6, [.ref a_2, .ref b_3, .ref d_4, .int (nI 1)])), (q_7, .inl (k_8, 8, .inl (fun _ => 0)))] := hD
  have hP9 := hP.sub (ws' := [(h0, .inr (7, [.ref q_1, .ref q_7]))]) [0] rfl
  have hD9 := hD.sub (ws' := [(h0, .inr (7, [.ref q_1, .ref q_7]))]) [0] (by decide) rfl
  have hK9 := hK.sub (tys' := []) [] rfl
  rw [hQg]
  exact W.vret hx hb hr (fun t ht hW => ⟨⟨(q_1, q_7), rfl, trivial, by rw [ht]; exact hP9, va_K.moved hW.alike hK9, hD9⟩, hS.F ht⟩) hS.2.2 d_Ter_init_23

-- ThresholdBench$Participant.<init>
set_option maxHeartbeats 4000000 in
set_option maxRecDepth 100000 in
theorem c_Par_init (l : Launch) (dC : Nat → ClassId) (dI : Nat → Nat → Nat) (h0 : Nat) (sz : Nat)  : Met l y_Par_init (.code y_Par_init prog_5_method_1_code 1 (none) :: AW) ({ frames := 2, cells := 16, slots := 134, locals := 32 } : Room) (va_Pc [.ref h0] (pw (dC, dI) CL [(h0, .inr (8, [.null, .null, .null, .null, .null, .null, .null]))] [] sz)) (va_Qv (fun u : Nat × Nat × Nat × Nat × Nat × Nat × Nat => True) (fun (u : Nat × Nat × Nat × Nat × Nat × Nat × Nat) t => qw (dC, dI) CL (va_A [(h0, .inr (8, [.null, .null, .null, .null, .null, .null, .null]))] sz) ((fun u : Nat × Nat × Nat × Nat × Nat × Nat × Nat => [(h0, .inr (8, [.ref u.1, .ref u.2.1, .ref u.2.2.1, .ref u.2.2.2.1, .ref u.2.2.2.2.1, .ref u.2.2.2.2.2.1, .ref u.2.2.2.2.2.2]))]) u) ((fun u : Nat × Nat × Nat × Nat × Nat × Nat × Nat => []) u) t) (va_A [(h0, .inr (8, [.null, .null, .null, .null, .null, .null, .null]))] sz)) 16 134 (va_A [(h0, .inr (8, [.null, .null, .null, .null, .null, .null, .null]))] sz) := by
  refine Met.ofW (cc := prog_5_method_1_code) (maxL := 1) (ret := none) (by decide) rfl ?_
  intro p e s m args below meth c s₁ B hml hv
  obtain ⟨rfl, hsz, hP, hK, hD0, hZ, hN⟩ := hv
  have hx := B.exec
  have hb := B.bytes
  have hr := B.returns
  have hts := kw (atoms_spec (ws := .code y_Par_init prog_5_method_1_code 1 (none) :: AW) B.pre)
  have hown : s.vm.findClass R_Par = some m.cls := findClass_of_methodNamed B.named
  have hlocks := B.notSynchronized
  have hin : meth.name = "<init>" := (name_of_methodNamed B.named B.method).1
  subst hsz
  have hD := hD0.self (sz := s.heap.size)
  obtain ⟨Qg, hQg⟩ : ∃ q, q = MQ below (va_Qv (fun u : Nat × Nat × Nat × Nat × Nat × Nat × Nat => True) (fun (u : Nat × Nat × Nat × Nat × Nat × Nat × Nat) t => qw (dC, dI) CL (va_A [(h0, .inr (8, [.null, .null, .null, .null, .null, .null, .null]))] s.heap.size) ((fun u : Nat × Nat × Nat × Nat × Nat × Nat × Nat => [(h0, .inr (8, [.ref u.1, .ref u.2.1, .ref u.2.2.1, .ref u.2.2.2.1, .ref u.2.2.2.2.1, .ref u.2.2.2.2.2.1, .ref u.2.2.2.2.2.2]))]) u) ((fun u : Nat × Nat × Nat × Nat × Nat × Nat × Nat => []) u) t) (va_A [(h0, .inr (8, [.null, .null, .null, .null, .null, .null, .null]))] s.heap.size)) ([.ref h0] : List Value).toArray s 16 134 (va_A [(h0, .inr (8, [.null, .null, .null, .null, .null, .null, .null]))] s.heap.size) := ⟨_, rfl⟩
  rw [← hQg]
  generalize hAe : va_A [(h0, .inr (8, [.null, .null, .null, .null, .null, .null, .null]))] s.heap.size = A at hD hZ hQg
  have hA : ∀ q : Nat, s.heap.size ≤ q → A q := fun q h => by rw [← hAe]; exact Or.inr h
  have hS : va_S A s.heap s.heap [] := va_S.rf
  have hP : va_P (dC, dI) CL [(h0, .inr (8, [.null, .null, .null, .null, .null, .null, .null]))] s.heap := hP
  have hl := lv_entry ([.ref h0]) (n := 1) (Nat.le_of_ble_eq_true rfl)
  rw [lg_entry_eq]
  generalize (lg_sl ([.ref h0]) ++ List.replicate (1 - (lg_sl ([.ref h0])).length) Slot.unset).toArray = ls at hl ⊢
  have hl : lv_has ls 1 [(0, .ref h0)] := hl
  show W p l e ({ frames := 2, cells := 16, slots := 134, locals := 32 } : Room) s m ([.ref h0] : List Value).toArray below meth c s.heap [] 0 0 Qg (F0 m 0 ls [])
  refine lv_aload_n hx hb d_Par_init_0 rfl (lv_at hl 0 rfl) ?_
  refine W.objInit hx hb hown (hts _ m_27) (hts _ m_1) (hts _ m_2) rfl (by rw [hml]; exact hl.1) rfl d_Par_init_1 (Nat.le_of_ble_eq_true rfl) (Nat.le_of_ble_eq_true rfl) ?_
  refine W.eq (g2 := F0 m 4 ls []) rfl ?_
  refine lv_aload_n hx hb d_Par_init_4 rfl (lv_at hl 0 rfl) ?_
  refine lv_bipush (v := (nI 8)) hx hb d_Par_init_5 (by decide +kernel) ?_
  refine va_newa (atype := .int) (ty := .int) (N' := 8) (a0 := (8, .inl (fun _ => 0))) hx hb (hts _ m_25) rfl hK hP hD hS hA (fun _ => rfl) (nI_pos (by omega)) (nI_clamp (by omega)) (by decide) (Nat.le_of_ble_eq_true rfl) (Nat.le_of_ble_eq_true rfl) d_Par_init_7 (fun q_1 k_2 H hK hP hD hS => ?_)
  have hP : va_P (dC, dI) CL [(h0, .inr (8, [.null, .null, .null, .null, .null, .null, .null])), (q_1, .inl (k_2, 8, .inl (fun _ => 0)))] H := hP
  have hD : va_D A [(h0, .inr (8, [.null, .null, .null, .null, .null, .null, .null])), (q_1, .inl (k_2, 8, .inl (fun _ => 0)))] := hD
  refine va_putF (D := (dC, dI)) (ci := 8) (v := .ref q_1) (ty := (.array .int)) (C := R_Par) (T := F_Par) (N := 7) hx hb hts i_Par t_Par t_Par_ok n_Par hown hK hP hD hS 0 rfl rfl 0 (by decide) (hts _ m_28) (fun _ h9 => h9) rfl hin rfl (by decide +kernel) rfl rfl (Nat.le_of_ble_eq_true rfl) d_Par_init_9 (fun H locs hP hD hS => ?_)
  have hP : va_P (dC, dI) CL [(h0, .inr (8, [.ref q_1, .null, .null, .null, .null, .null, .null])), (q_1, .inl (k_2, 8, .inl (fun _ => 0)))] H := hP
  have hD : va_D A [(h0, .inr (8, [.ref q_1, .null, .null, .null, .null, .null, .null])), (q_1, .inl (k_2, 8, .inl (fun _ => 0)))] := hD
  refine lv_aload_n hx hb d_Par_init_12 rfl (lv_at hl 0 rfl) ?_
  refine lv_bipush (v := (nI 8)) hx hb d_Par_init_13 (by decide +kernel) ?_
  refine va_newa (atype := .int) (ty := .int) (N' := 8) (a0 := (8, .inl (fun _ => 0))) hx hb (hts _ m_25) rfl hK hP hD hS hA (fun _ => rfl) (nI_pos (by omega)) (nI_clamp (by omega)) (by decide) (Nat.le_of_ble_eq_true rfl) (Nat.le_of_ble_eq_true rfl) d_Par_init_15 (fun q_3 k_4 H hK hP hD hS => ?_)
  have hP : va_P (dC, dI) CL [(h0, .inr (8, [.ref q_1, .null, .null, .null, .null, .null, .null])), (q_1, .inl (k_2, 8, .inl (fun _ => 0))), (q_3, .inl (k_4, 8, .inl (fun _ => 0)))] H := hP
  have hD : va_D A [(h0, .inr (8, [.ref q_1, .null, .null, .null, .null, .null, .null])), (q_1, .inl (k_2, 8, .inl (fun _ => 0))), (q_3, .inl (k_4, 8, .inl (fun _ => 0)))] := hD
  refine va_putF (D := (dC, dI)) (ci := 8) (v := .ref q_3) (ty := (.array .int)) (C := R_Par) (T := F_Par) (N := 7) hx hb hts i_Par t_Par t_Par_ok n_Par hown hK hP hD hS 0 rfl rfl 1 (by decide) (hts _ m_29) (fun _ h9 => h9) rfl hin rfl (by decide +kernel) rfl rfl (Nat.le_of_ble_eq_true rfl) d_Par_init_17 (fun H locs hP hD hS => ?_)
  have hP : va_P (dC, dI) CL [(h0, .inr (8, [.ref q_1, .ref q_3, .null, .null, .null, .null, .null])), (q_1, .inl (k_2, 8, .inl (fun _ => 0))), (q_3, .inl (k_4, 8, .inl (fun _ => 0)))] H := hP
  have hD : va_D A [(h0, .inr (8, [.ref q_1, .ref q_3, .null, .null, .null, .null, .null])), (q_1, .inl (k_2, 8, .inl (fun _ => 0))), (q_3, .inl (k_4, 8, .inl (fun _ => 0)))] := hD
  refine lv_aload_n hx hb d_Par_init_20 rfl (lv_at hl 0 rfl) ?_
  refine lv_bipush (v := (nI 8)) hx hb d_Par_init_21 (by decide +kernel) ?_
  refine va_newa (atype := .int) (ty := .int) (N' := 8) (a0 := (8, .inl (fun _ => 0))) hx hb (hts _ m_25) rfl hK hP hD hS hA (fun _ => rfl) (nI_pos (by omega)) (nI_clamp (by omega)) (by decide) (Nat.le_of_ble_eq_true rfl) (Nat.le_of_ble_eq_true rfl) d_Par_init_23 (fun q_5 k_6 H hK hP hD hS => ?_)
  have hP : va_P (dC, dI) CL [(h0, .inr (8, [.ref q_1, .ref q_3, .null, .null, .null, .null, .null])), (q_1, .inl (k_2, 8, .inl (fun _ => 0))), (q_3, .inl (k_4, 8, .inl (fun _ => 0))), (q_5, .inl (k_6, 8, .inl (fun _ => 0)))] H := hP
  have hD : va_D A [(h0, .inr (8, [.ref q_1, .ref q_3, .null, .null, .null, .null, .null])), (q_1, .inl (k_2, 8, .inl (fun _ => 0))), (q_3, .inl (k_4, 8, .inl (fun _ => 0))), (q_5, .inl (k_6, 8, .inl (fun _ => 0)))] := hD
  refine va_putF (D := (dC, dI)) (ci := 8) (v := .ref q_5) (ty := (.array .int)) (C := R_Par) (T := F_Par) (N := 7) hx hb hts i_Par t_Par t_Par_ok n_Par hown hK hP hD hS 0 rfl rfl 2 (by decide) (hts _ m_30) (fun _ h9 => h9) rfl hin rfl (by decide +kernel) rfl rfl (Nat.le_of_ble_eq_true rfl) d_Par_init_25 (fun H locs hP hD hS => ?_)
  have hP : va_P (dC, dI) CL [(h0, .inr (8, [.ref q_1, .ref q_3, .ref q_5, .null, .null, .null, .null])), (q_1, .inl (k_2, 8, .inl (fun _ => 0))), (q_3, .inl (k_4, 8, .inl (fun _ => 0))), (q_5, .inl (k_6, 8, .inl (fun _ => 0)))] H := hP
  have hD : va_D A [(h0, .inr (8, [.ref q_1, .ref q_3, .ref q_5, .null, .null, .null, .null])), (q_1, .inl (k_2, 8, .inl (fun _ => 0))), (q_3, .inl (k_4, 8, .inl (fun _ => 0))), (q_5, .inl (k_6, 8, .inl (fun _ => 0)))] := hD
  refine lv_aload_n hx hb d_Par_init_28 rfl (lv_at hl 0 rfl) ?_
  refine lv_bipush (v := (nI 8)) hx hb d_Par_init_29 (by decide +kernel) ?_
  refine va_newa (atype := .int) (ty := .int) (N' := 8) (a0 := (8, .inl (fun _ => 0))) hx hb (hts _ m_25) rfl hK hP hD hS hA (fun _ => rfl) (nI_pos (by omega)) (nI_clamp (by omega)) (by decide) (Nat.le_of_ble_eq_true rfl) (Nat.le_of_ble_eq_true rfl) d_Par_init_31 (fun q_7 k_8 H hK hP hD hS => ?_)
  have hP : va_P (dC, dI) CL [(h0, .inr (8, [.ref q_1, .ref q_3, .ref q_5, .null, .null, .null, .null])), (q_1, .inl (k_2, 8, .inl (fun _ => 0))), (q_3, .inl (k_4, 8, .inl (fun _ => 0))), (q_5, .inl (k_6, 8, .inl (fun _ => 0))), (q_7, .inl (k_8, 8, .inl (fun _ => 0)))] H := hP
  have hD : va_D A [(h0, .inr (8, [.ref q_1, .ref q_3, .ref q_5, .null, .null, .null, .null])), (q_1, .inl (k_2, 8, .inl (fun _ => 0))), (q_3, .inl (k_4, 8, .inl (fun _ => 0))), (q_5, .inl (k_6, 8, .inl (fun _ => 0))), (q_7, .inl (k_8, 8, .inl (fun _ => 0)))] := hD
  refine va_putF (D := (dC, dI)) (ci := 8) (v := .ref q_7) (ty := (.array .int)) (C := R_Par) (T := F_Par) (N := 7) hx hb hts i_Par t_Par t_Par_ok n_Par hown hK hP hD hS 0 rfl rfl 3 (by decide) (hts _ m_31) (fun _ h9 => h9) rfl hin rfl (by decide +kernel) rfl rfl (Nat.le_of_ble_eq_true rfl) d_Par_init_33 (fun H locs hP hD hS => ?_)
  have hP : va_P (dC, dI) CL [(h0, .inr (8, [.ref q_1, .ref q_3, .ref q_5, .ref q_7, .null, .null, .null])), (q_1, .inl (k_2, 8, .inl (fun _ => 0))), (q_3, .inl (k_4, 8, .inl (fun _ => 0))), (q_5, .inl (k_6, 8, .inl (fun _ => 0))), (q_7, .inl (k_8, 8, .inl (fun _ => 0)))] H := hP
  have hD : va_D A [(h0, .inr (8, [.ref q_1, .ref q_3, .ref q_5, .ref q_7, .null, .null, .null])), (q_1, .inl (k_2, 8, .inl (fun _ => 0))), (q_3, .inl (k_4, 8, .inl (fun _ => 0))), (q_5, .inl (k_6, 8, .inl (fun _ => 0))), (q_7, .inl (k_8, 8, .inl (fun _ => 0)))] := hD
  refine lv_aload_n hx hb d_Par_init_36 rfl (lv_at hl 0 rfl) ?_
  refine va_new (ci := 6) (fs := [.null, .null, .null, .int (nI 0)]) (C := R_Poi) (T := F_Poi) (N := 4) hx hb hts i_Poi t_Poi t_Poi_ok hown (hts _ m_32) (hts _ m_19) (hts _ m_20) hK hP hD hS hA rfl f_Poi (Nat.le_of_ble_eq_true rfl) (Nat.le_of_ble_eq_true rfl) d_Par_init_37 (fun q_9 H hP hD hS => ?_)
  have hP : va_P (dC, dI) CL [(h0, .inr (8, [.ref q_1, .ref q_3, .ref q_5, .ref q_7, .null, .null, .null])), (q_1, .inl (k_2, 8, .inl (fun _ => 0))), (q_3, .inl (k_4, 8, .inl (fun _ => 0))), (q_5, .inl (k_6, 8, .inl (fun _ => 0))), (q_7, .inl (k_8, 8, .inl (fun _ => 0))), (q_9, .inr (6, [.null, .null, .null, .int (nI 0)]))] H := hP
  have hD : va_D A [(h0, .inr (8, [.ref q_1, .ref q_3, .ref q_5, .ref q_7, .null, .null, .null])), (q_1, .inl (k_2, 8, .inl (fun _ => 0))), (q_3, .inl (k_4, 8, .inl (fun _ => 0))), (q_5, .inl (k_6, 8, .inl (fun _ => 0))), (q_7, .inl (k_8, 8, .inl (fun _ => 0))), (q_9, .inr (6, [.null, .null, .null, .int (nI 0)]))] := hD
  refine lv_dup hx hb d_Par_init_40 rfl ?_
  refine k_finv (wr := [(h0, .inr (8, [.ref q_1, .ref q_3, .ref q_5, .ref q_7, .null, .null, .null])), (q_1, .inl (k_2, 8, .inl (fun _ => 0))), (q_3, .inl (k_4, 8, .inl (fun _ => 0))), (q_5, .inl (k_6, 8, .inl (fun _ => 0))), (q_7, .inl (k_8, 8, .inl (fun _ => 0)))]) [5] [0, 1, 2, 3, 4] (k_runI (n := 0) (As := []) (rest := [.ref q_9, .ref h0]) (wc := [(q_9, .inr (6, [.null, .null, .null, .int (nI 0)]))]) ⟨hx, hb, hml, hown, hts⟩ (c_Poi_init l dC dI q_9 _ ) (kg_code m_21) m_20 m_33 m_23 rfl (by decide +kernel) rfl rfl ⟨Nat.le_of_ble_eq_true rfl, Nat.le_of_ble_eq_true rfl⟩ [5] [] hP hD hK hS hA hZ hN (by rfl) (by decide) (by rfl) rfl hl.1 rfl (Nat.le_of_ble_eq_true rfl) d_Par_init_41 ⟨(Nat.le_of_ble_eq_true rfl), (Nat.le_of_ble_eq_true rfl)⟩) hP hD hK hS hA (by rfl) (by rfl) (by decide) (by decide) (fun u9 H locs hw_14 hP hD hK hS => ?_)
  obtain ⟨a_10, b_11, d_12⟩ := u9
  try dsimp only at hw_14
  have hP : va_P (dC, dI) CL [(h0, .inr (8, [.ref q_1, .ref q_3, .ref q_5, .ref q_7, .null, .null, .null])), (q_1, .inl (k_2, 8, .inl (fun _ => 0))), (q_3, .inl (k_4, 8, .inl (fun _ => 0))), (q_5, .inl (k_6, 8, .inl (fun _ => 0))), (q_7, .inl (k_8, 8, .inl (fun _ => 0))), (q_9, .inr (6, [.ref a_10, .ref b_11, .ref d_12, .int (nI 1)]))] H := hP
  have hD : va_D A [(h0, .inr (8, [.ref q_1, .ref q_3, .ref q_5, .ref q_7, .null, .null, .null])), (q_1, .inl (k_2, 8, .inl (fun _ => 0))), (q_3, .inl (k_4, 8, .inl (fun _ => 0))), (q_5, .inl (k_6, 8, .inl (fun _ => 0))), (q_7, .inl (k_8, 8, .inl (fun _ => 0))), (q_9, .inr (6, [.ref a_10, .ref b_11, .ref d_12, .int (nI 1)]))] := hD
  have hK : va_K (dC, dI) CL [(k_2, .int), (k_4, .int), (k_6, .int), (k_8, .int)] s := hK
  refine va_putF (D := (dC, dI)) (ci := 8) (v := .ref q_9) (ty := (.object "ThresholdBench$Point")) (C := R_Par) (T := F_Par) (N := 7) hx hb hts i_Par t_Par t_Par_ok n_Par hown hK hP hD hS 0 rfl rfl 4 (by decide) (hts _ m_34) (fun _ h9 => h9) rfl hin rfl (by decide +kernel) rfl rfl (Nat.le_of_ble_eq_true rfl) d_Par_init_44 (fun H locs hP hD hS => ?_)
  have hP : va_P (dC, dI) CL [(h0, .inr (8, [.ref q_1, .ref q_3, .ref q_5, .ref q_7, .ref q_9, .null, .null])), (q_1, .inl (k_2, 8, .inl (fun _ => 0))), (q_3, .inl (k_4, 8, .inl (fun _ => 0))), (q_5, .inl (k_6, 8, .inl (fun _ => 0))), (q_7, .inl (k_8, 8, .inl (fun _ => 0))), (q_9, .inr (6, [.ref a_10, .ref b_11, .ref d_12, .int (nI 1)]))] H := hP
  have hD : va_D A [(h0, .inr (8, [.ref q_1, .ref q_3, .ref q_5, .ref q_7, .ref q_9, .null, .null])), (q_1, .inl (k_2, 8, .inl (fun _ => 0))), (q_3, .inl (k_4, 8, .inl (fun _ => 0))), (q_5, .inl (k_6, 8, .inl (fun _ => 0))), (q_7, .inl (k_8, 8, .inl (fun _ => 0))), (q_9, .inr (6, [.ref a_10, .ref b_11, .ref d_12, .int (nI 1)]))] := hD
  refine lv_aload_n hx hb d_Par_init_47 rfl (lv_at hl 0 rfl) ?_
  refine va_new (ci := 6) (fs := [.null, .null, .null, .int (nI 0)]) (C := R_Poi) (T := F_Poi) (N := 4) hx hb hts i_Poi t_Poi t_Poi_ok hown (hts _ m_32) (hts _ m_19) (hts _ m_20) hK hP hD hS hA rfl f_Poi (Nat.le_of_ble_eq_true rfl) (Nat.le_of_ble_eq_true rfl) d_Par_init_48 (fun q_15 H hP hD hS => ?_)
  have hP : va_P (dC, dI) CL [(h0, .inr (8, [.ref q_1, .ref q_3, .ref q_5, .ref q_7, .ref q_9, .null, .null])), (q_1, .inl (k_2, 8, .inl (fun _ => 0))), (q_3, .inl (k_4, 8, .inl (fun _ => 0))), (q_5, .inl (k_6, 8, .inl (fun _ => 0))), (q_7, .inl (k_8, 8, .inl (fun _ => 0))), (q_9, .inr (6, [.ref a_10, .ref b_11, .ref d_12, .int (nI 1)])), (q_15, .inr (6, [.null, .null, .null, .int (nI 0)]))] H := hP
  have hD : va_D A [(h0, .inr (8, [.ref q_1, .ref q_3, .ref q_5, .ref q_7, .ref q_9, .null, .null])), (q_1, .inl (k_2, 8, .inl (fun _ => 0))), (q_3, .inl (k_4, 8, .inl (fun _ => 0))), (q_5, .inl (k_6, 8, .inl (fun _ => 0))), (q_7, .inl (k_8, 8, .inl (fun _ => 0))), (q_9, .inr (6, [.ref a_10, .ref b_11, .ref d_12, .int (nI 1)])), (q_15, .inr (6, [.null, .null, .null, .int (nI 0)]))] := hD
  refine lv_dup hx hb d_Par_init_51 rfl ?_
  refine k_finv (wr := [(h0, .inr (8, [.ref q_1, .ref q_3, .ref q_5, .ref q_7, .ref q_9, .null, .null])), (q_1, .inl (k_2, 8, .inl (fun _ => 0))), (q_3, .inl (k_4, 8, .inl (fun _ => 0))), (q_5, .inl (k_6, 8, .inl (fun _ => 0))), (q_7, .inl (k_8, 8, .inl (fun _ => 0))), (q_9, .inr (6, [.ref a_10, .ref b_11, .ref d_12, .int (nI 1)]))]) [6] [0, 1, 2, 3, 4, 5] (k_runI (n := 0) (As := []) (rest := [.ref q_15, .ref h0]) (wc := [(q_15, .inr (6, [.null, .null, .null, .int (nI 0)]))]) ⟨hx, hb, hml, hown, hts⟩ (c_Poi_init l dC dI q_15 _ ) (kg_code m_21) m_20 m_33 m_23 rfl (by decide +kernel) rfl rfl ⟨Nat.le_of_ble_eq_true rfl, Nat.le_of_ble_eq_true rfl⟩ [6] [] hP hD hK hS hA hZ hN (by rfl) (by decide) (by rfl) rfl hl.1 rfl (Nat.le_of_ble_eq_true rfl) d_Par_init_52 ⟨(Nat.le_of_ble_eq_true rfl), (Nat.le_of_ble_eq_true rfl)⟩) hP hD hK hS hA (by rfl) (by rfl) (by decide) (by decide) (fun u9 H locs hw_20 hP hD hK hS => ?_)
  obtain ⟨a_16, b_17, d_18⟩ := u9
  try dsimp only at hw_20
  have hP : va_P (dC, dI) CL [(h0, .inr (8, [.ref q_1, .ref q_3, .ref q_5, .ref q_7, .ref q_9, .null, .null])), (q_1, .inl (k_2, 8, .inl (fun _ => 0))), (q_3, .inl (k_4, 8, .inl (fun _ => 0))), (q_5, .inl (k_6, 8, .inl (fun _ => 0))), (q_7, .inl (k_8, 8, .inl (fun _ => 0))), (q_9, .inr (6, [.ref a_10, .ref b_11, .ref d_12, .int (nI 1)])), (q_15, .inr (6, [.ref a_16, .ref b_17, .ref d_18, .int (nI 1)]))] H := hP
  have hD : va_D A [(h0, .inr (8, [.ref q_1, .ref q_3, .ref q_5, .ref q_7, .ref q_9, .null, .null])), (q_1, .inl (k_2, 8, .inl (fun _ => 0))), (q_3, .inl (k_4, 8, .inl (fun _ => 0))), (q_5, .inl (k_6, 8, .inl (fun _ => 0))), (q_7, .inl (k_8, 8, .inl (fun _ => 0))), (q_9, .inr (6, [.ref a_10, .ref b_11, .ref d_12, .int (nI 1)])), (q_15, .inr (6, [.ref a_16, .ref b_17, .ref d_18, .int (nI 1)]))] := hD
  have hK : va_K (dC, dI) CL [(k_2, .int), (k_4, .int), (k_6, .int), (k_8, .int)] s := hK
  refine va_putF (D := (dC, dI)) (ci := 8) (v := .ref q_15) (ty := (.object "ThresholdBench$Point")) (C := R_Par) (T := F_Par) (N := 7) hx hb hts i_Par t_Par t_Par_ok n_Par hown hK hP hD hS 0 rfl rfl 5 (by decide) (hts _ m_35) (fun _ h9 => h9) rfl hin rfl (by decide +kernel) rfl rfl (Nat.le_of_ble_eq_true rfl) d_Par_init_55 (fun H locs hP hD hS => ?_)
  have hP : va_P (dC, dI) CL [(h0, .inr (8, [.ref q_1, .ref q_3, .ref q_5, .ref q_7, .ref q_9, .ref q_15, .null])), (q_1, .inl (k_2, 8, .inl (fun _ => 0))), (q_3, .inl (k_4, 8, .inl (fun _ => 0))), (q_5, .inl (k_6, 8, .inl (fun _ => 0))), (q_7, .inl (k_8, 8, .inl (fun _ => 0))), (q_9, .inr (6, [.ref a_10, .ref b_11, .ref d_12, .int (nI 1)])), (q_15, .inr (6, [.ref a_16, .ref b_17, .ref d_18, .int (nI 1)]))] H := hP
  have hD : va_D A [(h0, .inr (8, [.ref q_1, .ref q_3, .ref q_5, .ref q_7, .ref q_9, .ref q_15, .null])), (q_1, .inl (k_2, 8, .inl (fun _ => 0))), (q_3, .inl (k_4, 8, .inl (fun _ => 0))), (q_5, .inl (k_6, 8, .inl (fun _ => 0))), (q_7, .inl (k_8, 8, .inl (fun _ => 0))), (q_9, .inr (6, [.ref a_10, .ref b_11, .ref d_12, .int (nI 1)])), (q_15, .inr (6, [.ref a_16, .ref b_17, .ref d_18, .int (nI 1)]))] := hD
  refine lv_aload_n hx hb d_Par_init_58 rfl (lv_at hl 0 rfl) ?_
  refine va_new (ci := 6) (fs := [.null, .null, .null, .int (nI 0)]) (C := R_Poi) (T := F_Poi) (N := 4) hx hb hts i_Poi t_Poi t_Poi_ok hown (hts _ m_32) (hts _ m_19) (hts _ m_20) hK hP hD hS hA rfl f_Poi (Nat.le_of_ble_eq_true rfl) (Nat.le_of_ble_eq_true rfl) d_Par_init_59 (fun q_21 H hP hD hS => ?_)
  have hP : va_P (dC, dI) CL [(h0, .inr (8, [.ref q_1, .ref q_3, .ref q_5, .ref q_7, .ref q_9, .ref q_15, .null])), (q_1, .inl (k_2, 8, .inl (fun _ => 0))), (q_3, .inl (k_4, 8, .inl (fun _ => 0))), (q_5, .inl (k_6, 8, .inl (fun _ => 0))), (q_7, .inl (k_8, 8, .inl (fun _ => 0))), (q_9, .inr (6, [.ref a_10, .ref b_11, .ref d_12, .int (nI 1)])), (q_15, .inr (6, [.ref a_16, .ref b_17, .ref d_18, .int (nI 1)])), (q_21, .inr (6, [.null, .null, .null, .int (nI 0)]))] H := hP
  have hD : va_D A [(h0, .inr (8, [.ref q_1, .ref q_3, .ref q_5, .ref q_7, .ref q_9, .ref q_15, .null])), (q_1, .inl (k_2, 8, .inl (fun _ => 0))), (q_3, .inl (k_4, 8, .inl (fun _ => 0))), (q_5, .inl (k_6, 8, .inl (fun _ => 0))), (q_7, .inl (k_8, 8, .inl (fun _ => 0))), (q_9, .inr (6, [.ref a_10, .ref b_11, .ref d_12, .int (nI 1)])), (q_15, .inr (6, [.ref a_16, .ref b_17, .ref d_18, .int (nI 1)])), (q_21, .inr (6, [.null, .null, .null, .int (nI 0)]))] := hD
  refine lv_dup hx hb d_Par_init_62 rfl ?_
  refine k_finv (wr := [(h0, .inr (8, [.ref q_1, .ref q_3, .ref q_5, .ref q_7, .ref q_9, .ref q_15, .null])), (q_1, .inl (k_2, 8, .inl (fun _ => 0))), (q_3, .inl (k_4, 8, .inl (fun _ => 0))), (q_5, .inl (k_6, 8, .inl (fun _ => 0))), (q_7, .inl (k_8, 8, .inl (fun _ => 0))), (q_9, .inr (6, [.ref a_10, .ref b_11, .ref d_12, .int (nI 1)])), (q_15, .inr (6, [.ref a_16, .ref b_17, .ref d_18, .int (nI 1)]))]) [7] [0, 1, 2, 3, 4, 5, 6] (k_runI (n := 0) (As := []) (rest := [.ref q_21, .ref h0]) (wc := [(q_21, .inr (6, [.null, .null, .null, .int (nI 0)]))]) ⟨hx, hb, hml, hown, hts⟩ (c_Poi_init l dC dI q_21 _ ) (kg_code m_21) m_20 m_33 m_23 rfl (by decide +kernel) rfl rfl ⟨Nat.le_of_ble_eq_true rfl, Nat.le_of_ble_eq_true rfl⟩ [7] [] hP hD hK hS hA hZ hN (by rfl) (by decide) (by rfl) rfl hl.1 rfl (Nat.le_of_ble_eq_true rfl) d_Par_init_63 ⟨(Nat.le_of_ble_eq_true rfl), (Nat.le_of_ble_eq_true rfl)⟩) hP hD hK hS hA (by rfl) (by rfl) (by decide) (by decide) (fun u9 H locs hw_26 hP hD hK hS => ?_)
  obtain ⟨a_22, b_23, d_24⟩ := u9
  try dsimp only at hw_26
  have hP : va_P (dC, dI) CL [(h0, .inr (8, [.ref q_1, .ref q_3, .ref q_5, .ref q_7, .ref q_9, .ref q_15, .null])), (q_1, .inl (k_2, 8, .inl (fun _ => 0))), (q_3, .inl (k_4, 8, .inl (fun _ => 0))), (q_5, .inl (k_6, 8, .inl (fun _ => 0))), (q_7, .inl (k_8, 8, .inl (fun _ => 0))), (q_9, .inr (6, [.ref a_10, .ref b_11, .ref d_12, .int (nI 1)])), (q_15, .inr (6, [.ref a_16, .ref b_17, .ref d_18, .int (nI 1)])), (q_21, .inr (6, [.ref a_22, .ref b_23, .ref d_24, .int (nI 1)]))] H := hP
  have hD : va_D A [(h0, .inr (8, [.ref q_1, .ref q_3, .ref q_5, .ref q_7, .ref q_9, .ref q_15, .null])), (q_1, .inl (k_2, 8, .inl (fun _ => 0))), (q_3, .inl (k_4, 8, .inl (fun _ => 0))), (q_5, .inl (k_6, 8, .inl (fun _ => 0))), (q_7, .inl (k_8, 8, .inl (fun _ => 0))), (q_9, .inr (6, [.ref a_10, .ref b_11, .ref d_12, .int (nI 1)])), (q_15, .inr (6, [.ref a_16, .ref b_17, .ref d_18, .int (nI 1)])), (q_21, .inr (6, [.ref a_22, .ref b_23, .ref d_24, .int (nI 1)]))] := hD
  have hK : va_K (dC, dI) CL [(k_2, .int), (k_4, .int), (k_6, .int), (k_8, .int)] s := hK
  refine va_putF (D := (dC, dI)) (ci := 8) (v := .ref q_21) (ty := (.object "ThresholdBench$Point")) (C := R_Par) (T := F_Par) (N := 7) hx hb hts i_Par t_Par t_Par_ok n_Par hown hK hP hD hS 0 rfl rfl 6 (by decide) (hts _ m_36) (fun _ h9 => h9) rfl hin rfl (by decide +kernel) rfl rfl (Nat.le_of_ble_eq_true rfl) d_Par_init_66 (fun H locs hP hD hS => ?_)
  have hP : va_P (dC, dI) CL [(h0, .inr (8, [.ref q_1, .ref q_3, .ref q_5, .ref q_7, .ref q_9, .ref q_15, .ref q_21])), (q_1, .inl (k_2, 8, .inl (fun _ => 0))), (q_3, .inl (k_4, 8, .inl (fun _ => 0))), (q_5, .inl (k_6, 8, .inl (fun _ => 0))), (q_7, .inl (k_8, 8, .inl (fun _ => 0))), (q_9, .inr (6, [.ref a_10, .ref b_11, .ref d_12, .int (nI 1)])), (q_15, .inr (6, [.ref a_16, .ref b_17, .ref d_18, .int (nI 1)])), (q_21, .inr (6, [.ref a_22, .ref b_23, .ref d_24, .int (nI 1)]))] H := hP
  have hD : va_D A [(h0, .inr (8, [.ref q_1, .ref q_3, .ref q_5, .ref q_7, .ref q_9, .ref q_15, .ref q_21])), (q_1, .inl (k_2, 8, .inl (fun _ => 0))), (q_3, .inl (k_4, 8, .inl (fun _ => 0))), (q_5, .inl (k_6, 8, .inl (fun _ => 0))), (q_7, .inl (k_8, 8, .inl (fun _ => 0))), (q_9, .inr (6, [.ref a_10, .ref b_11, .ref d_12, .int (nI 1)])), (q_15, .inr (6, [.ref a_16, .ref b_17, .ref d_18, .int (nI 1)])), (q_21, .inr (6, [.ref a_22, .ref b_23, .ref d_24, .int (nI 1)]))] := hD
  have hP9 := hP.sub (ws' := [(h0, .inr (8, [.ref q_1, .ref q_3, .ref q_5, .ref q_7, .ref q_9, .ref q_15, .ref q_21]))]) [0] rfl
  have hD9 := hD.sub (ws' := [(h0, .inr (8, [.ref q_1, .ref q_3, .ref q_5, .ref q_7, .ref q_9, .ref q_15, .ref q_21]))]) [0] (by decide) rfl
  have hK9 := hK.sub (tys' := []) [] rfl
  rw [hQg]
  exact W.vret hx hb hr (fun t ht hW => ⟨⟨(q_1, q_3, q_5, q_7, q_9, q_15, q_21), rfl, trivial, by rw [ht]; exact hP9, va_K.moved hW.alike hK9, hD9⟩, hS.F ht⟩) hS.2.2 d_Par_init_69

-- ThresholdBench$Scalars.<init>
set_option maxHeartbeats 4000000 in
set_option maxRecDepth 100000 in
theorem c_Sca_init (l : Launch) (dC : Nat → ClassId) (dI : Nat → Nat → Nat) (h0 : Nat) (sz : Nat)  : Met l y_Sca_init (.code y_Sca_init prog_8_method_1_code 1 (none) :: AW) ({ frames := 1, cells := 2, slots := 24, locals := 12 } : Room) (va_Pc [.ref h0] (pw (dC, dI) CL [(h0, .inr (3, [.null, .null]))] [] sz)) (va_Qv (fun u : Nat × Nat => True) (fun (u : Nat × Nat) t => qw (dC, dI) CL (va_A [(h0, .inr (3, [.null, .null]))] sz) ((fun u : Nat × Nat => [(h0, .inr (3, [.ref u.1, .ref u.2]))]) u) ((fun u : Nat × Nat => []) u) t) (va_A [(h0, .inr (3, [.null, .null]))] sz)) 2 24 (va_A [(h0, .inr (3, [.null, .null]))] sz) := by
  refine Met.ofW (cc := prog_8_method_1_code) (maxL := 1) (ret := none) (by decide) rfl ?_
  intro p e s m args below meth c s₁ B hml hv
  obtain ⟨rfl, hsz, hP, hK, hD0, hZ, hN⟩ := hv
  have hx := B.exec
  have hb := B.bytes
  have hr := B.returns
  have hts := kw (atoms_spec (ws := .code y_Sca_init prog_8_method_1_code 1 (none) :: AW) B.pre)
  have hown : s.vm.findClass R_Sca = some m.cls := findClass_of_methodNamed B.named
  have hlocks := B.notSynchronized
  have hin : meth.name = "<init>" := (name_of_methodNamed B.named B.method).1
  subst hsz
  have hD := hD0.self (sz := s.heap.size)
  obtain ⟨Qg, hQg⟩ : ∃ q, q = MQ below (va_Qv (fun u : Nat × Nat => True) (fun (u : Nat × Nat) t => qw (dC, dI) CL (va_A [(h0, .inr (3, [.null, .null]))] s.heap.size) ((fun u : Nat × Nat => [(h0, .inr (3, [.ref u.1, .ref u.2]))]) u) ((fun u : Nat × Nat => []) u) t) (va_A [(h0, .inr (3, [.null, .null]))] s.heap.size)) ([.ref h0] : List Value).toArray s 2 24 (va_A [(h0, .inr (3, [.null, .null]))] s.heap.size) := ⟨_, rfl⟩
  rw [← hQg]
  generalize hAe : va_A [(h0, .inr (3, [.null, .null]))] s.heap.size = A at hD hZ hQg
  have hA : ∀ q : Nat, s.heap.size ≤ q → A q := fun q h => by rw [← hAe]; exact Or.inr h
  have hS : va_S A s.heap s.heap [] := va_S.rf
  have hP : va_P (dC, dI) CL [(h0, .inr (3, [.null, .null]))] s.heap := hP
  have hl := lv_entry ([.ref h0]) (n := 1) (Nat.le_of_ble_eq_true rfl)
  rw [lg_entry_eq]
  generalize (lg_sl ([.ref h0]) ++ List.replicate (1 - (lg_sl ([.ref h0])).length) Slot.unset).toArray = ls at hl ⊢
  have hl : lv_has ls 1 [(0, .ref h0)] := hl
  show W p l e ({ frames := 1, cells := 2, slots := 24, locals := 12 } : Room) s m ([.ref h0] : List Value).toArray below meth c s.heap [] 0 0 Qg (F0 m 0 ls [])
  refine lv_aload_n hx hb d_Sca_init_0 rfl (lv_at hl 0 rfl) ?_
  refine W.objInit hx hb hown (hts _ m_37) (hts _ m_1) (hts _ m_2) rfl (by rw [hml]; exact hl.1) rfl d_Sca_init_1 (Nat.le_of_ble_eq_true rfl) (Nat.le_of_ble_eq_true rfl) ?_
  refine W.eq (g2 := F0 m 4 ls []) rfl ?_
  refine lv_aload_n hx hb d_Sca_init_4 rfl (lv_at hl 0 rfl) ?_
  refine lv_bipush (v := (nI 16)) hx hb d_Sca_init_5 (by decide +kernel) ?_
  refine va_newa (atype := .int) (ty := .int) (N' := 16) (a0 := (16, .inl (fun _ => 0))) hx hb (hts _ m_25) rfl hK hP hD hS hA (fun _ => rfl) (nI_pos (by omega)) (nI_clamp (by omega)) (by decide) (Nat.le_of_ble_eq_true rfl) (Nat.le_of_ble_eq_true rfl) d_Sca_init_7 (fun q_1 k_2 H hK hP hD hS => ?_)
  have hP : va_P (dC, dI) CL [(h0, .inr (3, [.null, .null])), (q_1, .inl (k_2, 16, .inl (fun _ => 0)))] H := hP
  have hD : va_D A [(h0, .inr (3, [.null, .null])), (q_1, .inl (k_2, 16, .inl (fun _ => 0)))] := hD
  refine va_putF (D := (dC, dI)) (ci := 3) (v := .ref q_1) (ty := (.array .int)) (C := R_Sca) (T := F_Sca) (N := 2) hx hb hts i_Sca t_Sca t_Sca_ok n_Sca hown hK hP hD hS 0 rfl rfl 0 (by decide) (hts _ m_38) (fun _ h9 => h9) rfl hin rfl (by decide +kernel) rfl rfl (Nat.le_of_ble_eq_true rfl) d_Sca_init_9 (fun H locs hP hD hS => ?_)
  have hP : va_P (dC, dI) CL [(h0, .inr (3, [.ref q_1, .null])), (q_1, .inl (k_2, 16, .inl (fun _ => 0)))] H := hP
  have hD : va_D A [(h0, .inr (3, [.ref q_1, .null])), (q_1, .inl (k_2, 16, .inl (fun _ => 0)))] := hD
  refine lv_aload_n hx hb d_Sca_init_12 rfl (lv_at hl 0 rfl) ?_
  refine lv_bipush (v := (nI 8)) hx hb d_Sca_init_13 (by decide +kernel) ?_
  refine va_newa (atype := .int) (ty := .int) (N' := 8) (a0 := (8, .inl (fun _ => 0))) hx hb (hts _ m_25) rfl hK hP hD hS hA (fun _ => rfl) (nI_pos (by omega)) (nI_clamp (by omega)) (by decide) (Nat.le_of_ble_eq_true rfl) (Nat.le_of_ble_eq_true rfl) d_Sca_init_15 (fun q_3 k_4 H hK hP hD hS => ?_)
  have hP : va_P (dC, dI) CL [(h0, .inr (3, [.ref q_1, .null])), (q_1, .inl (k_2, 16, .inl (fun _ => 0))), (q_3, .inl (k_4, 8, .inl (fun _ => 0)))] H := hP
  have hD : va_D A [(h0, .inr (3, [.ref q_1, .null])), (q_1, .inl (k_2, 16, .inl (fun _ => 0))), (q_3, .inl (k_4, 8, .inl (fun _ => 0)))] := hD
  refine va_putF (D := (dC, dI)) (ci := 3) (v := .ref q_3) (ty := (.array .int)) (C := R_Sca) (T := F_Sca) (N := 2) hx hb hts i_Sca t_Sca t_Sca_ok n_Sca hown hK hP hD hS 0 rfl rfl 1 (by decide) (hts _ m_39) (fun _ h9 => h9) rfl hin rfl (by decide +kernel) rfl rfl (Nat.le_of_ble_eq_true rfl) d_Sca_init_17 (fun H locs hP hD hS => ?_)
  have hP : va_P (dC, dI) CL [(h0, .inr (3, [.ref q_1, .ref q_3])), (q_1, .inl (k_2, 16, .inl (fun _ => 0))), (q_3, .inl (k_4, 8, .inl (fun _ => 0)))] H := hP
  have hD : va_D A [(h0, .inr (3, [.ref q_1, .ref q_3])), (q_1, .inl (k_2, 16, .inl (fun _ => 0))), (q_3, .inl (k_4, 8, .inl (fun _ => 0)))] := hD
  have hP9 := hP.sub (ws' := [(h0, .inr (3, [.ref q_1, .ref q_3]))]) [0] rfl
  have hD9 := hD.sub (ws' := [(h0, .inr (3, [.ref q_1, .ref q_3]))]) [0] (by decide) rfl
  have hK9 := hK.sub (tys' := []) [] rfl
  rw [hQg]
  exact W.vret hx hb hr (fun t ht hW => ⟨⟨(q_1, q_3), rfl, trivial, by rw [ht]; exact hP9, va_K.moved hW.alike hK9, hD9⟩, hS.F ht⟩) hS.2.2 d_Sca_init_20

-- ThresholdBench$Field.<init>
set_option maxHeartbeats 4000000 in
set_option maxRecDepth 100000 in
theorem c_Fie_init (l : Launch) (dC : Nat → ClassId) (dI : Nat → Nat → Nat) (h0 : Nat) (sz : Nat)  : Met l y_Fie_init (.code y_Fie_init prog_4_method_1_code 1 (none) :: AW) ({ frames := 1, cells := 8, slots := 90, locals := 12 } : Room) (va_Pc [.ref h0] (pw (dC, dI) CL [(h0, .inr (4, [.null, .null, .null, .null, .null, .null, .null, .null]))] [] sz)) (va_Qv (fun u : Nat × Nat × Nat × Nat × Nat × Nat × Nat × Nat => True) (fun (u : Nat × Nat × Nat × Nat × Nat × Nat × Nat × Nat) t => qw (dC, dI) CL (va_A [(h0, .inr (4, [.null, .null, .null, .null, .null, .null, .null, .null]))] sz) ((fun u : Nat × Nat × Nat × Nat × Nat × Nat × Nat × Nat => [(h0, .inr (4, [.ref u.1, .ref u.2.1, .ref u.2.2.1, .ref u.2.2.2.1, .ref u.2.2.2.2.1, .ref u.2.2.2.2.2.1, .ref u.2.2.2.2.2.2.1, .ref u.2.2.2.2.2.2.2]))]) u) ((fun u : Nat × Nat × Nat × Nat × Nat × Nat × Nat × Nat => []) u) t) (va_A [(h0, .inr (4, [.null, .null, .null, .null, .null, .null, .null, .null]))] sz)) 8 90 (va_A [(h0, .inr (4, [.null, .null, .null, .null, .null, .null, .null, .null]))] sz) := by
  refine Met.ofW (cc := prog_4_method_1_code) (maxL := 1) (ret := none) (by decide) rfl ?_
  intro p e s m args below meth c s₁ B hml hv
  obtain ⟨rfl, hsz, hP, hK, hD0, hZ, hN⟩ := hv
  have hx := B.exec
  have hb := B.bytes
  have hr := B.returns
  have hts := kw (atoms_spec (ws := .code y_Fie_init prog_4_method_1_code 1 (none) :: AW) B.pre)
  have hown : s.vm.findClass R_Fie = some m.cls := findClass_of_methodNamed B.named
  have hlocks := B.notSynchronized
  have hin : meth.name = "<init>" := (name_of_methodNamed B.named B.method).1
  subst hsz
  have hD := hD0.self (sz := s.heap.size)
  obtain ⟨Qg, hQg⟩ : ∃ q, q = MQ below (va_Qv (fun u : Nat × Nat × Nat × Nat × Nat × Nat × Nat × Nat => True) (fun (u : Nat × Nat × Nat × Nat × Nat × Nat × Nat × Nat) t => qw (dC, dI) CL (va_A [(h0, .inr (4, [.null, .null, .null, .null, .null, .null, .null, .null]))] s.heap.size) ((fun u : Nat × Nat × Nat × Nat × Nat × Nat × Nat × Nat => [(h0, .inr (4, [.ref u.1, .ref u.2.1, .ref u.2.2.1, .ref u.2.2.2.1, .ref u.2.2.2.2.1, .ref u.2.2.2.2.2.1, .ref u.2.2.2.2.2.2.1, .ref u.2.2.2.2.2.2.2]))]) u) ((fun u : Nat × Nat × Nat × Nat × Nat × Nat × Nat × Nat => []) u) t) (va_A [(h0, .inr (4, [.null, .null, .null, .null, .null, .null, .null, .null]))] s.heap.size)) ([.ref h0] : List Value).toArray s 8 90 (va_A [(h0, .inr (4, [.null, .null, .null, .null, .null, .null, .null, .null]))] s.heap.size) := ⟨_, rfl⟩
  rw [← hQg]
  generalize hAe : va_A [(h0, .inr (4, [.null, .null, .null, .null, .null, .null, .null, .null]))] s.heap.size = A at hD hZ hQg
  have hA : ∀ q : Nat, s.heap.size ≤ q → A q := fun q h => by rw [← hAe]; exact Or.inr h
  have hS : va_S A s.heap s.heap [] := va_S.rf
  have hP : va_P (dC, dI) CL [(h0, .inr (4, [.null, .null, .null, .null, .null, .null, .null, .null]))] s.heap := hP
  have hl := lv_entry ([.ref h0]) (n := 1) (Nat.le_of_ble_eq_true rfl)
  rw [lg_entry_eq]
  generalize (lg_sl ([.ref h0]) ++ List.replicate (1 - (lg_sl ([.ref h0])).length) Slot.unset).toArray = ls at hl ⊢
  have hl : lv_has ls 1 [(0, .ref h0)] := hl
  show W p l e ({ frames := 1, cells := 8, slots := 90, locals := 12 } : Room) s m ([.ref h0] : List Value).toArray below meth c s.heap [] 0 0 Qg (F0 m 0 ls [])
  refine lv_aload_n hx hb d_Fie_init_0 rfl (lv_at hl 0 rfl) ?_
  refine W.objInit hx hb hown (hts _ m_40) (hts _ m_1) (hts _ m_2) rfl (by rw [hml]; exact hl.1) rfl d_Fie_init_1 (Nat.le_of_ble_eq_true rfl) (Nat.le_of_ble_eq_true rfl) ?_
  refine W.eq (g2 := F0 m 4 ls []) rfl ?_
  refine lv_aload_n hx hb d_Fie_init_4 rfl (lv_at hl 0 rfl) ?_
  refine lv_bipush (v := (nI 20)) hx hb d_Fie_init_5 (by decide +kernel) ?_
  refine va_newa (atype := .long) (ty := .long) (N' := 20) (a0 := (20, .inr (.inl (fun _ => 0)))) hx hb (hts _ m_12) rfl hK hP hD hS hA (fun _ => rfl) (nI_pos (by omega)) (nI_clamp (by omega)) (by decide) (Nat.le_of_ble_eq_true rfl) (Nat.le_of_ble_eq_true rfl) d_Fie_init_7 (fun q_1 k_2 H hK hP hD hS => ?_)
  have hP : va_P (dC, dI) CL [(h0, .inr (4, [.null, .null, .null, .null, .null, .null, .null, .null])), (q_1, .inl (k_2, 20, .inr (.inl (fun _ => 0))))] H := hP
  have hD : va_D A [(h0, .inr (4, [.null, .null, .null, .null, .null, .null, .null, .null])), (q_1, .inl (k_2, 20, .inr (.inl (fun _ => 0))))] := hD
  refine va_putF (D := (dC, dI)) (ci := 4) (v := .ref q_1) (ty := (.array .long)) (C := R_Fie) (T := F_Fie) (N := 8) hx hb hts i_Fie t_Fie t_Fie_ok n_Fie hown hK hP hD hS 0 rfl rfl 0 (by decide) (hts _ m_41) (fun _ h9 => h9) rfl hin rfl (by decide +kernel) rfl rfl (Nat.le_of_ble_eq_true rfl) d_Fie_init_9 (fun H locs hP hD hS => ?_)
  have hP : va_P (dC, dI) CL [(h0, .inr (4, [.ref q_1, .null, .null, .null, .null, .null, .null, .null])), (q_1, .inl (k_2, 20, .inr (.inl (fun _ => 0))))] H := hP
  have hD : va_D A [(h0, .inr (4, [.ref q_1, .null, .null, .null, .null, .null, .null, .null])), (q_1, .inl (k_2, 20, .inr (.inl (fun _ => 0))))] := hD
  refine lv_aload_n hx hb d_Fie_init_12 rfl (lv_at hl 0 rfl) ?_
  refine lv_bipush (v := (nI 10)) hx hb d_Fie_init_13 (by decide +kernel) ?_
  refine va_newa (atype := .long) (ty := .long) (N' := 10) (a0 := (10, .inr (.inl (fun _ => 0)))) hx hb (hts _ m_12) rfl hK hP hD hS hA (fun _ => rfl) (nI_pos (by omega)) (nI_clamp (by omega)) (by decide) (Nat.le_of_ble_eq_true rfl) (Nat.le_of_ble_eq_true rfl) d_Fie_init_15 (fun q_3 k_4 H hK hP hD hS => ?_)
  have hP : va_P (dC, dI) CL [(h0, .inr (4, [.ref q_1, .null, .null, .null, .null, .null, .null, .null])), (q_1, .inl (k_2, 20, .inr (.inl (fun _ => 0)))), (q_3, .inl (k_4, 10, .inr (.inl (fun _ => 0))))] H := hP
  have hD : va_D A [(h0, .inr (4, [.ref q_1, .null, .null, .null, .null, .null, .null, .null])), (q_1, .inl (k_2, 20, .inr (.inl (fun _ => 0)))), (q_3, .inl (k_4, 10, .inr (.inl (fun _ => 0))))] := hD
  refine va_putF (D := (dC, dI)) (ci := 4) (v := .ref q_3) (ty := (.array .long)) (C := R_Fie) (T := F_Fie) (N := 8) hx hb hts i_Fie t_Fie t_Fie_ok n_Fie hown hK hP hD hS 0 rfl rfl 1 (by decide) (hts _ m_42) (fun _ h9 => h9) rfl hin rfl (by decide +kernel) rfl rfl (Nat.le_of_ble_eq_true rfl) d_Fie_init_17 (fun H locs hP hD hS => ?_)
  have hP : va_P (dC, dI) CL [(h0, .inr (4, [.ref q_1, .ref q_3, .null, .null, .null, .null, .null, .null])), (q_1, .inl (k_2, 20, .inr (.inl (fun _ => 0)))), (q_3, .inl (k_4, 10, .inr (.inl (fun _ => 0))))] H := hP
  have hD : va_D A [(h0, .inr (4, [.ref q_1, .ref q_3, .null, .null, .null, .null, .null, .null])), (q_1, .inl (k_2, 20, .inr (.inl (fun _ => 0)))), (q_3, .inl (k_4, 10, .inr (.inl (fun _ => 0))))] := hD
  refine lv_aload_n hx hb d_Fie_init_20 rfl (lv_at hl 0 rfl) ?_
  refine lv_bipush (v := (nI 10)) hx hb d_Fie_init_21 (by decide +kernel) ?_
  refine va_newa (atype := .long) (ty := .long) (N' := 10) (a0 := (10, .inr (.inl (fun _ => 0)))) hx hb (hts _ m_12) rfl hK hP hD hS hA (fun _ => rfl) (nI_pos (by omega)) (nI_clamp (by omega)) (by decide) (Nat.le_of_ble_eq_true rfl) (Nat.le_of_ble_eq_true rfl) d_Fie_init_23 (fun q_5 k_6 H hK hP hD hS => ?_)
  have hP : va_P (dC, dI) CL [(h0, .inr (4, [.ref q_1, .ref q_3, .null, .null, .null, .null, .null, .null])), (q_1, .inl (k_2, 20, .inr (.inl (fun _ => 0)))), (q_3, .inl (k_4, 10, .inr (.inl (fun _ => 0)))), (q_5, .inl (k_6, 10, .inr (.inl (fun _ => 0))))] H := hP
  have hD : va_D A [(h0, .inr (4, [.ref q_1, .ref q_3, .null, .null, .null, .null, .null, .null])), (q_1, .inl (k_2, 20, .inr (.inl (fun _ => 0)))), (q_3, .inl (k_4, 10, .inr (.inl (fun _ => 0)))), (q_5, .inl (k_6, 10, .inr (.inl (fun _ => 0))))] := hD
  refine va_putF (D := (dC, dI)) (ci := 4) (v := .ref q_5) (ty := (.array .long)) (C := R_Fie) (T := F_Fie) (N := 8) hx hb hts i_Fie t_Fie t_Fie_ok n_Fie hown hK hP hD hS 0 rfl rfl 2 (by decide) (hts _ m_43) (fun _ h9 => h9) rfl hin rfl (by decide +kernel) rfl rfl (Nat.le_of_ble_eq_true rfl) d_Fie_init_25 (fun H locs hP hD hS => ?_)
  have hP : va_P (dC, dI) CL [(h0, .inr (4, [.ref q_1, .ref q_3, .ref q_5, .null, .null, .null, .null, .null])), (q_1, .inl (k_2, 20, .inr (.inl (fun _ => 0)))), (q_3, .inl (k_4, 10, .inr (.inl (fun _ => 0)))), (q_5, .inl (k_6, 10, .inr (.inl (fun _ => 0))))] H := hP
  have hD : va_D A [(h0, .inr (4, [.ref q_1, .ref q_3, .ref q_5, .null, .null, .null, .null, .null])), (q_1, .inl (k_2, 20, .inr (.inl (fun _ => 0)))), (q_3, .inl (k_4, 10, .inr (.inl (fun _ => 0)))), (q_5, .inl (k_6, 10, .inr (.inl (fun _ => 0))))] := hD
  refine lv_aload_n hx hb d_Fie_init_28 rfl (lv_at hl 0 rfl) ?_
  refine lv_bipush (v := (nI 10)) hx hb d_Fie_init_29 (by decide +kernel) ?_
  refine va_newa (atype := .long) (ty := .long) (N' := 10) (a0 := (10, .inr (.inl (fun _ => 0)))) hx hb (hts _ m_12) rfl hK hP hD hS hA (fun _ => rfl) (nI_pos (by omega)) (nI_clamp (by omega)) (by decide) (Nat.le_of_ble_eq_true rfl) (Nat.le_of_ble_eq_true rfl) d_Fie_init_31 (fun q_7 k_8 H hK hP hD hS => ?_)
  have hP : va_P (dC, dI) CL [(h0, .inr (4, [.ref q_1, .ref q_3, .ref q_5, .null, .null, .null, .null, .null])), (q_1, .inl (k_2, 20, .inr (.inl (fun _ => 0)))), (q_3, .inl (k_4, 10, .inr (.inl (fun _ => 0)))), (q_5, .inl (k_6, 10, .inr (.inl (fun _ => 0)))), (q_7, .inl (k_8, 10, .inr (.inl (fun _ => 0))))] H := hP
  have hD : va_D A [(h0, .inr (4, [.ref q_1, .ref q_3, .ref q_5, .null, .null, .null, .null, .null])), (q_1, .inl (k_2, 20, .inr (.inl (fun _ => 0)))), (q_3, .inl (k_4, 10, .inr (.inl (fun _ => 0)))), (q_5, .inl (k_6, 10, .inr (.inl (fun _ => 0)))), (q_7, .inl (k_8, 10, .inr (.inl (fun _ => 0))))] := hD
  refine va_putF (D := (dC, dI)) (ci := 4) (v := .ref q_7) (ty := (.array .long)) (C := R_Fie) (T := F_Fie) (N := 8) hx hb hts i_Fie t_Fie t_Fie_ok n_Fie hown hK hP hD hS 0 rfl rfl 3 (by decide) (hts _ m_44) (fun _ h9 => h9) rfl hin rfl (by decide +kernel) rfl rfl (Nat.le_of_ble_eq_true rfl) d_Fie_init_33 (fun H locs hP hD hS => ?_)
  have hP : va_P (dC, dI) CL [(h0, .inr (4, [.ref q_1, .ref q_3, .ref q_5, .ref q_7, .null, .null, .null, .null])), (q_1, .inl (k_2, 20, .inr (.inl (fun _ => 0)))), (q_3, .inl (k_4, 10, .inr (.inl (fun _ => 0)))), (q_5, .inl (k_6, 10, .inr (.inl (fun _ => 0)))), (q_7, .inl (k_8, 10, .inr (.inl (fun _ => 0))))] H := hP
  have hD : va_D A [(h0, .inr (4, [.ref q_1, .ref q_3, .ref q_5, .ref q_7, .null, .null, .null, .null])), (q_1, .inl (k_2, 20, .inr (.inl (fun _ => 0)))), (q_3, .inl (k_4, 10, .inr (.inl (fun _ => 0)))), (q_5, .inl (k_6, 10, .inr (.inl (fun _ => 0)))), (q_7, .inl (k_8, 10, .inr (.inl (fun _ => 0))))] := hD
  refine lv_aload_n hx hb d_Fie_init_36 rfl (lv_at hl 0 rfl) ?_
  refine lv_bipush (v := (nI 10)) hx hb d_Fie_init_37 (by decide +kernel) ?_
  refine va_newa (atype := .long) (ty := .long) (N' := 10) (a0 := (10, .inr (.inl (fun _ => 0)))) hx hb (hts _ m_12) rfl hK hP hD hS hA (fun _ => rfl) (nI_pos (by omega)) (nI_clamp (by omega)) (by decide) (Nat.le_of_ble_eq_true rfl) (Nat.le_of_ble_eq_true rfl) d_Fie_init_39 (fun q_9 k_10 H hK hP hD hS => ?_)
  have hP : va_P (dC, dI) CL [(h0, .inr (4, [.ref q_1, .ref q_3, .ref q_5, .ref q_7, .null, .null, .null, .null])), (q_1, .inl (k_2, 20, .inr (.inl (fun _ => 0)))), (q_3, .inl (k_4, 10, .inr (.inl (fun _ => 0)))), (q_5, .inl (k_6, 10, .inr (.inl (fun _ => 0)))), (q_7, .inl (k_8, 10, .inr (.inl (fun _ => 0)))), (q_9, .inl (k_10, 10, .inr (.inl (fun _ => 0))))] H := hP
  have hD : va_D A [(h0, .inr (4, [.ref q_1, .ref q_3, .ref q_5, .ref q_7, .null, .null, .null, .null])), (q_1, .inl (k_2, 20, .inr (.inl (fun _ => 0)))), (q_3, .inl (k_4, 10, .inr (.inl (fun _ => 0)))), (q_5, .inl (k_6, 10, .inr (.inl (fun _ => 0)))), (q_7, .inl (k_8, 10, .inr (.inl (fun _ => 0)))), (q_9, .inl (k_10, 10, .inr (.inl (fun _ => 0))))] := hD
  refine va_putF (D := (dC, dI)) (ci := 4) (v := .ref q_9) (ty := (.array .long)) (C := R_Fie) (T := F_Fie) (N := 8) hx hb hts i_Fie t_Fie t_Fie_ok n_Fie hown hK hP hD hS 0 rfl rfl 4 (by decide) (hts _ m_45) (fun _ h9 => h9) rfl hin rfl (by decide +kernel) rfl rfl (Nat.le_of_ble_eq_true rfl) d_Fie_init_41 (fun H locs hP hD hS => ?_)
  have hP : va_P (dC, dI) CL [(h0, .inr (4, [.ref q_1, .ref q_3, .ref q_5, .ref q_7, .ref q_9, .null, .null, .null])), (q_1, .inl (k_2, 20, .inr (.inl (fun _ => 0)))), (q_3, .inl (k_4, 10, .inr (.inl (fun _ => 0)))), (q_5, .inl (k_6, 10, .inr (.inl (fun _ => 0)))), (q_7, .inl (k_8, 10, .inr (.inl (fun _ => 0)))), (q_9, .inl (k_10, 10, .inr (.inl (fun _ => 0))))] H := hP
  have hD : va_D A [(h0, .inr (4, [.ref q_1, .ref q_3, .ref q_5, .ref q_7, .ref q_9, .null, .null, .null])), (q_1, .inl (k_2, 20, .inr (.inl (fun _ => 0)))), (q_3, .inl (k_4, 10, .inr (.inl (fun _ => 0)))), (q_5, .inl (k_6, 10, .inr (.inl (fun _ => 0)))), (q_7, .inl (k_8, 10, .inr (.inl (fun _ => 0)))), (q_9, .inl (k_10, 10, .inr (.inl (fun _ => 0))))] := hD
  refine lv_aload_n hx hb d_Fie_init_44 rfl (lv_at hl 0 rfl) ?_
  refine lv_bipush (v := (nI 10)) hx hb d_Fie_init_45 (by decide +kernel) ?_
  refine va_newa (atype := .long) (ty := .long) (N' := 10) (a0 := (10, .inr (.inl (fun _ => 0)))) hx hb (hts _ m_12) rfl hK hP hD hS hA (fun _ => rfl) (nI_pos (by omega)) (nI_clamp (by omega)) (by decide) (Nat.le_of_ble_eq_true rfl) (Nat.le_of_ble_eq_true rfl) d_Fie_init_47 (fun q_11 k_12 H hK hP hD hS => ?_)
  have hP : va_P (dC, dI) CL [(h0, .inr (4, [.ref q_1, .ref q_3, .ref q_5, .ref q_7, .ref q_9, .null, .null, .null])), (q_1, .inl (k_2, 20, .inr (.inl (fun _ => 0)))), (q_3, .inl (k_4, 10, .inr (.inl (fun _ => 0)))), (q_5, .inl (k_6, 10, .inr (.inl (fun _ => 0)))), (q_7, .inl (k_8, 10, .inr (.inl (fun _ => 0)))), (q_9, .inl (k_10, 10, .inr (.inl (fun _ => 0)))), (q_11, .inl (k_12, 10, .inr (.inl (fun _ => 0))))] H := hP
  have hD : va_D A [(h0, .inr (4, [.ref q_1, .ref q_3, .ref q_5, .ref q_7, .ref q_9, .null, .null, .null])), (q_1, .inl (k_2, 20, .inr (.inl (fun _ => 0)))), (q_3, .inl (k_4, 10, .inr (.inl (fun _ => 0)))), (q_5, .inl (k_6, 10, .inr (.inl (fun _ => 0)))), (q_7, .inl (k_8, 10, .inr (.inl (fun _ => 0)))), (q_9, .inl (k_10, 10, .inr (.inl (fun _ => 0)))), (q_11, .inl (k_12, 10, .inr (.inl (fun _ => 0))))] := hD
  refine va_putF (D := (dC, dI)) (ci := 4) (v := .ref q_11) (ty := (.array .long)) (C := R_Fie) (T := F_Fie) (N := 8) hx hb hts i_Fie t_Fie t_Fie_ok n_Fie hown hK hP hD hS 0 rfl rfl 5 (by decide) (hts _ m_46) (fun _ h9 => h9) rfl hin rfl (by decide +kernel) rfl rfl (Nat.le_of_ble_eq_true rfl) d_Fie_init_49 (fun H locs hP hD hS => ?_)
  have hP : va_P (dC, dI) CL [(h0, .inr (4, [.ref q_1, .ref q_3, .ref q_5, .ref q_7, .ref q_9, .ref q_11, .null, .null])), (q_1, .inl (k_2, 20, .inr (.inl (fun _ => 0)))), (q_3, .inl (k_4, 10, .inr (.inl (fun _ => 0)))), (q_5, .inl (k_6, 10, .inr (.inl (fun _ => 0)))), (q_7, .inl (k_8, 10, .inr (.inl (fun _ => 0)))), (q_9, .inl (k_10, 10, .inr (.inl (fun _ => 0)))), (q_11, .inl (k_12, 10, .inr (.inl (fun _ => 0))))] H := hP
  have hD : va_D A [(h0, .inr (4, [.ref q_1, .ref q_3, .ref q_5, .ref q_7, .ref q_9, .ref q_11, .null, .null])), (q_1, .inl (k_2, 20, .inr (.inl (fun _ => 0)))), (q_3, .inl (k_4, 10, .inr (.inl (fun _ => 0)))), (q_5, .inl (k_6, 10, .inr (.inl (fun _ => 0)))), (q_7, .inl (k_8, 10, .inr (.inl (fun _ => 0)))), (q_9, .inl (k_10, 10, .inr (.inl (fun _ => 0)))), (q_11, .inl (k_12, 10, .inr (.inl (fun _ => 0))))] := hD
  refine lv_aload_n hx hb d_Fie_init_52 rfl (lv_at hl 0 rfl) ?_
  refine lv_bipush (v := (nI 10)) hx hb d_Fie_init_53 (by decide +kernel) ?_
  refine va_newa (atype := .long) (ty := .long) (N' := 10) (a0 := (10, .inr (.inl (fun _ => 0)))) hx hb (hts _ m_12) rfl hK hP hD hS hA (fun _ => rfl) (nI_pos (by omega)) (nI_clamp (by omega)) (by decide) (Nat.le_of_ble_eq_true rfl) (Nat.le_of_ble_eq_true rfl) d_Fie_init_55 (fun q_13 k_14 H hK hP hD hS => ?_)
  have hP : va_P (dC, dI) CL [(h0, .inr (4, [.ref q_1, .ref q_3, .ref q_5, .ref q_7, .ref q_9, .ref q_11, .null, .null])), (q_1, .inl (k_2, 20, .inr (.inl (fun _ => 0)))), (q_3, .inl (k_4, 10, .inr (.inl (fun _ => 0)))), (q_5, .inl (k_6, 10, .inr (.inl (fun _ => 0)))), (q_7, .inl (k_8, 10, .inr (.inl (fun _ => 0)))), (q_9, .inl (k_10, 10, .inr (.inl (fun _ => 0)))), (q_11, .inl (k_12, 10, .inr (.inl (fun _ => 0)))), (q_13, .inl (k_14, 10, .inr (.inl (fun _ => 0))))] H := hP
  have hD : va_D A [(h0, .inr (4, [.ref q_1, .ref q_3, .ref q_5, .ref q_7, .ref q_9, .ref q_11, .null, .null])), (q_1, .inl (k_2, 20, .inr (.inl (fun _ => 0)))), (q_3, .inl (k_4, 10, .inr (.inl (fun _ => 0)))), (q_5, .inl (k_6, 10, .inr (.inl (fun _ => 0)))), (q_7, .inl (k_8, 10, .inr (.inl (fun _ => 0)))), (q_9, .inl (k_10, 10, .inr (.inl (fun _ => 0)))), (q_11, .inl (k_12, 10, .inr (.inl (fun _ => 0)))), (q_13, .inl (k_14, 10, .inr (.inl (fun _ => 0))))] := hD
  refine va_putF (D := (dC, dI)) (ci := 4) (v := .ref q_13) (ty := (.array .long)) (C := R_Fie) (T := F_Fie) (N := 8) hx hb hts i_Fie t_Fie t_Fie_ok n_Fie hown hK hP hD hS 0 rfl rfl 6 (by decide) (hts _ m_47) (fun _ h9 => h9) rfl hin rfl (by decide +kernel) rfl rfl (Nat.le_of_ble_eq_true rfl) d_Fie_init_57 (fun H locs hP hD hS => ?_)
  have hP : va_P (dC, dI) CL [(h0, .inr (4, [.ref q_1, .ref q_3, .ref q_5, .ref q_7, .ref q_9, .ref q_11, .ref q_13, .null])), (q_1, .inl (k_2, 20, .inr (.inl (fun _ => 0)))), (q_3, .inl (k_4, 10, .inr (.inl (fun _ => 0)))), (q_5, .inl (k_6, 10, .inr (.inl (fun _ => 0)))), (q_7, .inl (k_8, 10, .inr (.inl (fun _ => 0)))), (q_9, .inl (k_10, 10, .inr (.inl (fun _ => 0)))), (q_11, .inl (k_12, 10, .inr (.inl (fun _ => 0)))), (q_13, .inl (k_14, 10, .inr (.inl (fun _ => 0))))] H := hP
  have hD : va_D A [(h0, .inr (4, [.ref q_1, .ref q_3, .ref q_5, .ref q_7, .ref q_9, .ref q_11, .ref q_13, .null])), (q_1, .inl (k_2, 20, .inr (.inl (fun _ => 0)))), (q_3, .inl (k_4, 10, .inr (.inl (fun _ => 0)))), (q_5, .inl (k_6, 10, .inr (.inl (fun _ => 0)))), (q_7, .inl (k_8, 10, .inr (.inl (fun _ => 0)))), (q_9, .inl (k_10, 10, .inr (.inl (fun _ => 0)))), (q_11, .inl (k_12, 10, .inr (.inl (fun _ => 0)))), (q_13, .inl (k_14, 10, .inr (.inl (fun _ => 0))))] := hD
  refine lv_aload_n hx hb d_Fie_init_60 rfl (lv_at hl 0 rfl) ?_
  refine lv_bipush (v := (nI 10)) hx hb d_Fie_init_61 (by decide +kernel) ?_
  refine va_newa (atype := .long) (ty := .long) (N' := 10) (a0 := (10, .inr (.inl (fun _ => 0)))) hx hb (hts _ m_12) rfl hK hP hD hS hA (fun _ => rfl) (nI_pos (by omega)) (nI_clamp (by omega)) (by decide) (Nat.le_of_ble_eq_true rfl) (Nat.le_of_ble_eq_true rfl) d_Fie_init_63 (fun q_15 k_16 H hK hP hD hS => ?_)
  have hP : va_P (dC, dI) CL [(h0, .inr (4, [.ref q_1, .ref q_3, .ref q_5, .ref q_7, .ref q_9, .ref q_11, .ref q_13, .null])), (q_1, .inl (k_2, 20, .inr (.inl (fun _ => 0)))), (q_3, .inl (k_4, 10, .inr (.inl (fun _ => 0)))), (q_5, .inl (k_6, 10, .inr (.inl (fun _ => 0)))), (q_7, .inl (k_8, 10, .inr (.inl (fun _ => 0)))), (q_9, .inl (k_10, 10, .inr (.inl (fun _ => 0)))), (q_11, .inl (k_12, 10, .inr (.inl (fun _ => 0)))), (q_13, .inl (k_14, 10, .inr (.inl (fun _ => 0)))), (q_15, .inl (k_16, 10, .inr (.inl (fun _ => 0))))] H := hP
  have hD : va_D A [(h0, .inr (4, [.ref q_1, .ref q_3, .ref q_5, .ref q_7, .ref q_9, .ref q_11, .ref q_13, .null])), (q_1, .inl (k_2, 20, .inr (.inl (fun _ => 0)))), (q_3, .inl (k_4, 10, .inr (.inl (fun _ => 0)))), (q_5, .inl (k_6, 10, .inr (.inl (fun _ => 0)))), (q_7, .inl (k_8, 10, .inr (.inl (fun _ => 0)))), (q_9, .inl (k_10, 10, .inr (.inl (fun _ => 0)))), (q_11, .inl (k_12, 10, .inr (.inl (fun _ => 0)))), (q_13, .inl (k_14, 10, .inr (.inl (fun _ => 0)))), (q_15, .inl (k_16, 10, .inr (.inl (fun _ => 0))))] := hD
  refine va_putF (D := (dC, dI)) (ci := 4) (v := .ref q_15) (ty := (.array .long)) (C := R_Fie) (T := F_Fie) (N := 8) hx hb hts i_Fie t_Fie t_Fie_ok n_Fie hown hK hP hD hS 0 rfl rfl 7 (by decide) (hts _ m_48) (fun _ h9 => h9) rfl hin rfl (by decide +kernel) rfl rfl (Nat.le_of_ble_eq_true rfl) d_Fie_init_65 (fun H locs hP hD hS => ?_)
  have hP : va_P (dC, dI) CL [(h0, .inr (4, [.ref q_1, .ref q_3, .ref q_5, .ref q_7, .ref q_9, .ref q_11, .ref q_13, .ref q_15])), (q_1, .inl (k_2, 20, .inr (.inl (fun _ => 0)))), (q_3, .inl (k_4, 10, .inr (.inl (fun _ => 0)))), (q_5, .inl (k_6, 10, .inr (.inl (fun _ => 0)))), (q_7, .inl (k_8, 10, .inr (.inl (fun _ => 0)))), (q_9, .inl (k_10, 10, .inr (.inl (fun _ => 0)))), (q_11, .inl (k_12, 10, .inr (.inl (fun _ => 0)))), (q_13, .inl (k_14, 10, .inr (.inl (fun _ => 0)))), (q_15, .inl (k_16, 10, .inr (.inl (fun _ => 0))))] H := hP
  have hD : va_D A [(h0, .inr (4, [.ref q_1, .ref q_3, .ref q_5, .ref q_7, .ref q_9, .ref q_11, .ref q_13, .ref q_15])), (q_1, .inl (k_2, 20, .inr (.inl (fun _ => 0)))), (q_3, .inl (k_4, 10, .inr (.inl (fun _ => 0)))), (q_5, .inl (k_6, 10, .inr (.inl (fun _ => 0)))), (q_7, .inl (k_8, 10, .inr (.inl (fun _ => 0)))), (q_9, .inl (k_10, 10, .inr (.inl (fun _ => 0)))), (q_11, .inl (k_12, 10, .inr (.inl (fun _ => 0)))), (q_13, .inl (k_14, 10, .inr (.inl (fun _ => 0)))), (q_15, .inl (k_16, 10, .inr (.inl (fun _ => 0))))] := hD
  have hP9 := hP.sub (ws' := [(h0, .inr (4, [.ref q_1, .ref q_3, .ref q_5, .ref q_7, .ref q_9, .ref q_11, .ref q_13, .ref q_15]))]) [0] rfl
  have hD9 := hD.sub (ws' := [(h0, .inr (4, [.ref q_1, .ref q_3, .ref q_5, .ref q_7, .ref q_9, .ref q_11, .ref q_13, .ref q_15]))]) [0] (by decide) rfl
  have hK9 := hK.sub (tys' := []) [] rfl
  rw [hQg]
  exact W.vret hx hb hr (fun t ht hW => ⟨⟨(q_1, q_3, q_5, q_7, q_9, q_11, q_13, q_15), rfl, trivial, by rw [ht]; exact hP9, va_K.moved hW.alike hK9, hD9⟩, hS.F ht⟩) hS.2.2 d_Fie_init_68

-- ThresholdBench$Sha.<init>
set_option maxHeartbeats 4000000 in
set_option maxRecDepth 100000 in
theorem c_Sha_init (l : Launch) (dC : Nat → ClassId) (dI : Nat → Nat → Nat) (h0 : Nat) (sz : Nat)  : Met l y_Sha_init (.code y_Sha_init prog_9_method_1_code 1 (none) :: AW) ({ frames := 1, cells := 2, slots := 72, locals := 12 } : Room) (va_Pc [.ref h0] (pw (dC, dI) CL [(h0, .inr (10, [.null, .null, .int (nI 0)]))] [] sz)) (va_Qv (fun u : Nat × Nat × ClassId × ClassId => True) (fun (u : Nat × Nat × ClassId × ClassId) t => qw (dC, dI) CL (va_A [(h0, .inr (10, [.null, .null, .int (nI 0)]))] sz) ((fun u : Nat × Nat × ClassId × ClassId => [(h0, .inr (10, [.ref u.1, .ref u.2.1, .int (nI 0)])), (u.1, .inl (u.2.2.1, 8, .inl (fun _ => 0))), (u.2.1, .inl (u.2.2.2, 64, .inl (fun _ => 0)))]) u) ((fun u : Nat × Nat × ClassId × ClassId => [(u.2.2.1, .int), (u.2.2.2, .int)]) u) t) (va_A [(h0, .inr (10, [.null, .null, .int (nI 0)]))] sz)) 2 72 (va_A [(h0, .inr (10, [.null, .null, .int (nI 0)]))] sz) := by
  refine Met.ofW (cc := prog_9_method_1_code) (maxL := 1) (ret := none) (by decide) rfl ?_
  intro p e s m args below meth c s₁ B hml hv
  obtain ⟨rfl, hsz, hP, hK, hD0, hZ, hN⟩ := hv
  have hx := B.exec
  have hb := B.bytes
  have hr := B.returns
  have hts := kw (atoms_spec (ws := .code y_Sha_init prog_9_method_1_code 1 (none) :: AW) B.pre)
  have hown : s.vm.findClass R_Sha = some m.cls := findClass_of_methodNamed B.named
  have hlocks := B.notSynchronized
  have hin : meth.name = "<init>" := (name_of_methodNamed B.named B.method).1
  subst hsz
  have hD := hD0.self (sz := s.heap.size)
  obtain ⟨Qg, hQg⟩ : ∃ q, q = MQ below (va_Qv (fun u : Nat × Nat × ClassId × ClassId => True) (fun (u : Nat × Nat × ClassId × ClassId) t => qw (dC, dI) CL (va_A [(h0, .inr (10, [.null, .null, .int (nI 0)]))] s.heap.size) ((fun u : Nat × Nat × ClassId × ClassId => [(h0, .inr (10, [.ref u.1, .ref u.2.1, .int (nI 0)])), (u.1, .inl (u.2.2.1, 8, .inl (fun _ => 0))), (u.2.1, .inl (u.2.2.2, 64, .inl (fun _ => 0)))]) u) ((fun u : Nat × Nat × ClassId × ClassId => [(u.2.2.1, .int), (u.2.2.2, .int)]) u) t) (va_A [(h0, .inr (10, [.null, .null, .int (nI 0)]))] s.heap.size)) ([.ref h0] : List Value).toArray s 2 72 (va_A [(h0, .inr (10, [.null, .null, .int (nI 0)]))] s.heap.size) := ⟨_, rfl⟩
  rw [← hQg]
  generalize hAe : va_A [(h0, .inr (10, [.null, .null, .int (nI 0)]))] s.heap.size = A at hD hZ hQg
  have hA : ∀ q : Nat, s.heap.size ≤ q → A q := fun q h => by rw [← hAe]; exact Or.inr h
  have hS : va_S A s.heap s.heap [] := va_S.rf
  have hP : va_P (dC, dI) CL [(h0, .inr (10, [.null, .null, .int (nI 0)]))] s.heap := hP
  have hl := lv_entry ([.ref h0]) (n := 1) (Nat.le_of_ble_eq_true rfl)
  rw [lg_entry_eq]
  generalize (lg_sl ([.ref h0]) ++ List.replicate (1 - (lg_sl ([.ref h0])).length) Slot.unset).toArray = ls at hl ⊢
  have hl : lv_has ls 1 [(0, .ref h0)] := hl
  show W p l e ({ frames := 1, cells := 2, slots := 72, locals := 12 } : Room) s m ([.ref h0] : List Value).toArray below meth c s.heap [] 0 0 Qg (F0 m 0 ls [])
  refine lv_aload_n hx hb d_Sha_init_0 rfl (lv_at hl 0 rfl) ?_
  refine W.objInit hx hb hown (hts _ m_49) (hts _ m_1) (hts _ m_2) rfl (by rw [hml]; exact hl.1) rfl d_Sha_init_1 (Nat.le_of_ble_eq_true rfl) (Nat.le_of_ble_eq_true rfl) ?_
  refine W.eq (g2 := F0 m 4 ls []) rfl ?_
  refine lv_aload_n hx hb d_Sha_init_4 rfl (lv_at hl 0 rfl) ?_
  refine lv_bipush (v := (nI 8)) hx hb d_Sha_init_5 (by decide +kernel) ?_
  refine va_newa (atype := .int) (ty := .int) (N' := 8) (a0 := (8, .inl (fun _ => 0))) hx hb (hts _ m_25) rfl hK hP hD hS hA (fun _ => rfl) (nI_pos (by omega)) (nI_clamp (by omega)) (by decide) (Nat.le_of_ble_eq_true rfl) (Nat.le_of_ble_eq_true rfl) d_Sha_init_7 (fun q_1 k_2 H hK hP hD hS => ?_)
  have hP : va_P (dC, dI) CL [(h0, .inr (10, [.null, .null, .int (nI 0)])), (q_1, .inl (k_2, 8, .inl (fun _ => 0)))] H := hP
  have hD : va_D A [(h0, .inr (10, [.null, .null, .int (nI 0)])), (q_1, .inl (k_2, 8, .inl (fun _ => 0)))] := hD
  refine va_putF (D := (dC, dI)) (ci := 10) (v := .ref q_1) (ty := (.array .int)) (C := R_Sha) (T := F_Sha) (N := 3) hx hb hts i_Sha t_Sha t_Sha_ok n_Sha hown hK hP hD hS 0 rfl rfl 0 (by decide) (hts _ m_50) (fun _ h9 => h9) rfl hin rfl (by decide +kernel) rfl rfl (Nat.le_of_ble_eq_true rfl) d_Sha_init_9 (fun H locs hP hD hS => ?_)
  have hP : va_P (dC, dI) CL [(h0, .inr (10, [.ref q_1, .null, .int (nI 0)])), (q_1, .inl (k_2, 8, .inl (fun _ => 0)))] H := hP
  have hD : va_D A [(h0, .inr (10, [.ref q_1, .null, .int (nI 0)])), (q_1, .inl (k_2, 8, .inl (fun _ => 0)))] := hD
  refine lv_aload_n hx hb d_Sha_init_12 rfl (lv_at hl 0 rfl) ?_
  refine lv_bipush (v := (nI 64)) hx hb d_Sha_init_13 (by decide +kernel) ?_
  refine va_newa (atype := .int) (ty := .int) (N' := 64) (a0 := (64, .inl (fun _ => 0))) hx hb (hts _ m_25) rfl hK hP hD hS hA (fun _ => rfl) (nI_pos (by omega)) (nI_clamp (by omega)) (by decide) (Nat.le_of_ble_eq_true rfl) (Nat.le_of_ble_eq_true rfl) d_Sha_init_15 (fun q_3 k_4 H hK hP hD hS => ?_)
  have hP : va_P (dC, dI) CL [(h0, .inr (10, [.ref q_1, .null, .int (nI 0)])), (q_1, .inl (k_2, 8, .inl (fun _ => 0))), (q_3, .inl (k_4, 64, .inl (fun _ => 0)))] H := hP
  have hD : va_D A [(h0, .inr (10, [.ref q_1, .null, .int (nI 0)])), (q_1, .inl (k_2, 8, .inl (fun _ => 0))), (q_3, .inl (k_4, 64, .inl (fun _ => 0)))] := hD
  refine va_putF (D := (dC, dI)) (ci := 10) (v := .ref q_3) (ty := (.array .int)) (C := R_Sha) (T := F_Sha) (N := 3) hx hb hts i_Sha t_Sha t_Sha_ok n_Sha hown hK hP hD hS 0 rfl rfl 1 (by decide) (hts _ m_51) (fun _ h9 => h9) rfl hin rfl (by decide +kernel) rfl rfl (Nat.le_of_ble_eq_true rfl) d_Sha_init_17 (fun H locs hP hD hS => ?_)
  have hP : va_P (dC, dI) CL [(h0, .inr (10, [.ref q_1, .ref q_3, .int (nI 0)])), (q_1, .inl (k_2, 8, .inl (fun _ => 0))), (q_3, .inl (k_4, 64, .inl (fun _ => 0)))] H := hP
  have hD : va_D A [(h0, .inr (10, [.ref q_1, .ref q_3, .int (nI 0)])), (q_1, .inl (k_2, 8, .inl (fun _ => 0))), (q_3, .inl (k_4, 64, .inl (fun _ => 0)))] := hD
  have hP9 := hP.sub (ws' := [(h0, .inr (10, [.ref q_1, .ref q_3, .int (nI 0)])), (q_1, .inl (k_2, 8, .inl (fun _ => 0))), (q_3, .inl (k_4, 64, .inl (fun _ => 0)))]) [0, 1, 2] rfl
  have hD9 := hD.sub (ws' := [(h0, .inr (10, [.ref q_1, .ref q_3, .int (nI 0)])), (q_1, .inl (k_2, 8, .inl (fun _ => 0))), (q_3, .inl (k_4, 64, .inl (fun _ => 0)))]) [0, 1, 2] (by decide) rfl
  have hK9 := hK.sub (tys' := [(k_2, .int), (k_4, .int)]) [0, 1] rfl
  rw [hQg]
  exact W.vret hx hb hr (fun t ht hW => ⟨⟨(q_1, q_3, k_2, k_4), rfl, trivial, by rw [ht]; exact hP9, va_K.moved hW.alike hK9, hD9⟩, hS.F ht⟩) hS.2.2 d_Sha_init_20

-- ThresholdBench$Digests.<init>
set_option maxHeartbeats 4000000 in
set_option maxRecDepth 100000 in
theorem c_Dig_init (l : Launch) (dC : Nat → ClassId) (dI : Nat → Nat → Nat) (h0 : Nat) (sz : Nat)  : Met l y_Dig_init (.code y_Dig_init prog_3_method_1_code 1 (none) :: AW) ({ frames := 2, cells := 11, slots := 1129, locals := 33 } : Room) (va_Pc [.ref h0] (pw (dC, dI) CL [(h0, .inr (9, [.null, .null, .null, .null, .null]))] [] sz)) (va_Qv (fun u : Nat × Nat × Nat × ClassId × ClassId × Nat × Nat × Nat × Nat => True) (fun (u : Nat × Nat × Nat × ClassId × ClassId × Nat × Nat × Nat × Nat) t => qw (dC, dI) CL (va_A [(h0, .inr (9, [.null, .null, .null, .null, .null]))] sz) ((fun u : Nat × Nat × Nat × ClassId × ClassId × Nat × Nat × Nat × Nat => [(h0, .inr (9, [.ref u.1, .ref u.2.2.2.2.2.1, .ref u.2.2.2.2.2.2.1, .ref u.2.2.2.2.2.2.2.1, .ref u.2.2.2.2.2.2.2.2])), (u.1, .inr (10, [.ref u.2.1, .ref u.2.2.1, .int (nI 0)])), (u.2.1, .inl (u.2.2.2.1, 8, .inl (fun _ => 0))), (u.2.2.1, .inl (u.2.2.2.2.1, 64, .inl (fun _ => 0)))]) u) ((fun u : Nat × Nat × Nat × ClassId × ClassId × Nat × Nat × Nat × Nat => [(u.2.2.2.1, .int), (u.2.2.2.2.1, .int)]) u) t) (va_A [(h0, .inr (9, [.null, .null, .null, .null, .null]))] sz)) 11 1129 (va_A [(h0, .inr (9, [.null, .null, .null, .null, .null]))] sz) := by
  refine Met.ofW (cc := prog_3_method_1_code) (maxL := 1) (ret := none) (by decide) rfl ?_
  intro p e s m args below meth c s₁ B hml hv
  obtain ⟨rfl, hsz, hP, hK, hD0, hZ, hN⟩ := hv
  have hx := B.exec
  have hb := B.bytes
  have hr := B.returns
  have hts := kw (atoms_spec (ws := .code y_Dig_init prog_3_method_1_code 1 (none) :: AW) B.pre)
  have hown : s.vm.findClass R_Dig = some m.cls := findClass_of_methodNamed B.named
  have hlocks := B.notSynchronized
  have hin : meth.name = "<init>" := (name_of_methodNamed B.named B.method).1
  subst hsz
  have hD := hD0.self (sz := s.heap.size)
  obtain ⟨Qg, hQg⟩ : ∃ q, q = MQ below (va_Qv (fun u : Nat × Nat × Nat × ClassId × ClassId × Nat × Nat × Nat × Nat => True) (fun (u : Nat × Nat × Nat × ClassId × ClassId × Nat × Nat × Nat × Nat) t => qw (dC, dI) CL (va_A [(h0, .inr (9, [.null, .null, .null, .null, .null]))] s.heap.size) ((fun u : Nat × Nat × Nat × ClassId × ClassId × Nat × Nat × Nat × Nat => [(h0, .inr (9, [.ref u.1, .ref u.2.2.2.2.2.1, .ref u.2.2.2.2.2.2.1, .ref u.2.2.2.2.2.2.2.1, .ref u.2.2.2.2.2.2.2.2])), (u.1, .inr (10, [.ref u.2.1, .ref u.2.2.1, .int (nI 0)])), (u.2.1, .inl (u.2.2.2.1, 8, .inl (fun _ => 0))), (u.2.2.1, .inl (u.2.2.2.2.1, 64, .inl (fun _ => 0)))]) u) ((fun u : Nat × Nat × Nat × ClassId × ClassId × Nat × Nat × Nat × Nat => [(u.2.2.2.1, .int), (u.2.2.2.2.1, .int)]) u) t) (va_A [(h0, .inr (9, [.null, .null, .null, .null, .null]))] s.heap.size)) ([.ref h0] : List Value).toArray s 11 1129 (va_A [(h0, .inr (9, [.null, .null, .null, .null, .null]))] s.heap.size) := ⟨_, rfl⟩
  rw [← hQg]
  generalize hAe : va_A [(h0, .inr (9, [.null, .null, .null, .null, .null]))] s.heap.size = A at hD hZ hQg
  have hA : ∀ q : Nat, s.heap.size ≤ q → A q := fun q h => by rw [← hAe]; exact Or.inr h
  have hS : va_S A s.heap s.heap [] := va_S.rf
  have hP : va_P (dC, dI) CL [(h0, .inr (9, [.null, .null, .null, .null, .null]))] s.heap := hP
  have hl := lv_entry ([.ref h0]) (n := 1) (Nat.le_of_ble_eq_true rfl)
  rw [lg_entry_eq]
  generalize (lg_sl ([.ref h0]) ++ List.replicate (1 - (lg_sl ([.ref h0])).length) Slot.unset).toArray = ls at hl ⊢
  have hl : lv_has ls 1 [(0, .ref h0)] := hl
  show W p l e ({ frames := 2, cells := 11, slots := 1129, locals := 33 } : Room) s m ([.ref h0] : List Value).toArray below meth c s.heap [] 0 0 Qg (F0 m 0 ls [])
  refine lv_aload_n hx hb d_Dig_init_0 rfl (lv_at hl 0 rfl) ?_
  refine W.objInit hx hb hown (hts _ m_52) (hts _ m_1) (hts _ m_2) rfl (by rw [hml]; exact hl.1) rfl d_Dig_init_1 (Nat.le_of_ble_eq_true rfl) (Nat.le_of_ble_eq_true rfl) ?_
  refine W.eq (g2 := F0 m 4 ls []) rfl ?_
  refine lv_aload_n hx hb d_Dig_init_4 rfl (lv_at hl 0 rfl) ?_
  refine va_new (ci := 10) (fs := [.null, .null, .int (nI 0)]) (C := R_Sha) (T := F_Sha) (N := 3) hx hb hts i_Sha t_Sha t_Sha_ok hown (hts _ m_53) (hts _ m_54) (hts _ m_55) hK hP hD hS hA rfl f_Sha (Nat.le_of_ble_eq_true rfl) (Nat.le_of_ble_eq_true rfl) d_Dig_init_5 (fun q_1 H hP hD hS => ?_)
  have hP : va_P (dC, dI) CL [(h0, .inr (9, [.null, .null, .null, .null, .null])), (q_1, .inr (10, [.null, .null, .int (nI 0)]))] H := hP
  have hD : va_D A [(h0, .inr (9, [.null, .null, .null, .null, .null])), (q_1, .inr (10, [.null, .null, .int (nI 0)]))] := hD
  refine lv_dup hx hb d_Dig_init_8 rfl ?_
  refine k_finv (wr := [(h0, .inr (9, [.null, .null, .null, .null, .null]))]) [1] [0] (k_runI (n := 0) (As := []) (rest := [.ref q_1, .ref h0]) (wc := [(q_1, .inr (10, [.null, .null, .int (nI 0)]))]) ⟨hx, hb, hml, hown, hts⟩ (c_Sha_init l dC dI q_1 _ ) (kg_code m_56) m_55 m_57 m_58 rfl (by decide +kernel) rfl rfl ⟨Nat.le_of_ble_eq_true rfl, Nat.le_of_ble_eq_true rfl⟩ [1] [] hP hD hK hS hA hZ hN (by rfl) (by decide) (by rfl) rfl hl.1 rfl (Nat.le_of_ble_eq_true rfl) d_Dig_init_9 ⟨(Nat.le_of_ble_eq_true rfl), (Nat.le_of_ble_eq_true rfl)⟩) hP hD hK hS hA (by rfl) (by rfl) (by decide) (by decide) (fun u9 H locs hw_7 hP hD hK hS => ?_)
  obtain ⟨a_2, b_3, k_4, j_5⟩ := u9
  try dsimp only at hw_7
  have hP : va_P (dC, dI) CL [(h0, .inr (9, [.null, .null, .null, .null, .null])), (q_1, .inr (10, [.ref a_2, .ref b_3, .int (nI 0)])), (a_2, .inl (k_4, 8, .inl (fun _ => 0))), (b_3, .inl (j_5, 64, .inl (fun _ => 0)))] H := hP
  have hD : va_D A [(h0, .inr (9, [.null, .null, .null, .null, .null])), (q_1, .inr (10, [.ref a_2, .ref b_3, .int (nI 0)])), (a_2, .inl (k_4, 8, .inl (fun _ => 0))), (b_3, .inl (j_5, 64, .inl (fun _ => 0)))] := hD
  have hK : va_K (dC, dI) CL [(k_4, .int), (j_5, .int)] s := hK
  refine va_putF (D := (dC, dI)) (ci := 9) (v := .ref q_1) (ty := (.object "ThresholdBench$Sha")) (C := R_Dig) (T := F_Dig) (N := 5) hx hb hts i_Dig t_Dig t_Dig_ok n_Dig hown hK hP hD hS 0 rfl rfl 0 (by decide) (hts _ m_59) (fun _ h9 => h9) rfl hin rfl (by decide +kernel) rfl rfl (Nat.le_of_ble_eq_true rfl) d_Dig_init_12 (fun H locs hP hD hS => ?_)
  have hP : va_P (dC, dI) CL [(h0, .inr (9, [.ref q_1, .null, .null, .null, .null])), (q_1, .inr (10, [.ref a_2, .ref b_3, .int (nI 0)])), (a_2, .inl (k_4, 8, .inl (fun _ => 0))), (b_3, .inl (j_5, 64, .inl (fun _ => 0)))] H := hP
  have hD : va_D A [(h0, .inr (9, [.ref q_1, .null, .null, .null, .null])), (q_1, .inr (10, [.ref a_2, .ref b_3, .int (nI 0)])), (a_2, .inl (k_4, 8, .inl (fun _ => 0))), (b_3, .inl (j_5, 64, .inl (fun _ => 0)))] := hD
  refine lv_aload_n hx hb d_Dig_init_15 rfl (lv_at hl 0 rfl) ?_
  refine va_new (ci := 1) (fs := [.null, .int (nI 0)]) (C := R_Row) (T := F_Row) (N := 2) hx hb hts i_Row t_Row t_Row_ok hown (hts _ m_60) (hts _ m_61) (hts _ m_10) hK hP hD hS hA rfl f_Row (Nat.le_of_ble_eq_true rfl) (Nat.le_of_ble_eq_true rfl) d_Dig_init_16 (fun q_8 H hP hD hS => ?_)
  have hP : va_P (dC, dI) CL [(h0, .inr (9, [.ref q_1, .null, .null, .null, .null])), (q_1, .inr (10, [.ref a_2, .ref b_3, .int (nI 0)])), (a_2, .inl (k_4, 8, .inl (fun _ => 0))), (b_3, .inl (j_5, 64, .inl (fun _ => 0))), (q_8, .inr (1, [.null, .int (nI 0)]))] H := hP
  have hD : va_D A [(h0, .inr (9, [.ref q_1, .null, .null, .null, .null])), (q_1, .inr (10, [.ref a_2, .ref b_3, .int (nI 0)])), (a_2, .inl (k_4, 8, .inl (fun _ => 0))), (b_3, .inl (j_5, 64, .inl (fun _ => 0))), (q_8, .inr (1, [.null, .int (nI 0)]))] := hD
  refine lv_dup hx hb d_Dig_init_19 rfl ?_
  refine lv_sipush (v := (nI 166)) hx hb d_Dig_init_20 (by decide +kernel) ?_
  refine k_finv (wr := [(h0, .inr (9, [.ref q_1, .null, .null, .null, .null])), (q_1, .inr (10, [.ref a_2, .ref b_3, .int (nI 0)])), (a_2, .inl (k_4, 8, .inl (fun _ => 0))), (b_3, .inl (j_5, 64, .inl (fun _ => 0)))]) [4] [0, 1, 2, 3] (k_runI (n := 1) (As := [.int (nI 166)]) (rest := [.ref q_8, .ref h0]) (wc := [(q_8, .inr (1, [.null, .int (nI 0)]))]) ⟨hx, hb, hml, hown, hts⟩ (c_Row_init l dC dI q_8 166 _ (by omega)) (kg_code m_62) m_10 m_63 m_64 rfl (by decide +kernel) rfl rfl ⟨Nat.le_of_ble_eq_true rfl, Nat.le_of_ble_eq_true rfl⟩ [4] [] hP hD hK hS hA hZ hN (by rfl) (by decide) (by rfl) rfl hl.1 rfl (Nat.le_of_ble_eq_true rfl) d_Dig_init_23 ⟨(Nat.le_of_ble_eq_true rfl), (Nat.le_of_ble_eq_true rfl)⟩) hP hD hK hS hA (by rfl) (by rfl) (by decide) (by decide) (fun u9 H locs hw_12 hP hD hK hS => ?_)
  obtain ⟨q_9, k_10⟩ := u9
  try dsimp only at hw_12
  have hP : va_P (dC, dI) CL [(h0, .inr (9, [.ref q_1, .null, .null, .null, .null])), (q_1, .inr (10, [.ref a_2, .ref b_3, .int (nI 0)])), (a_2, .inl (k_4, 8, .inl (fun _ => 0))), (b_3, .inl (j_5, 64, .inl (fun _ => 0))), (q_8, .inr (1, [.ref q_9, .int (nI 0)])), (q_9, .inl (k_10, 166, .inl (fun _ => 0)))] H := hP
  have hD : va_D A [(h0, .inr (9, [.ref q_1, .null, .null, .null, .null])), (q_1, .inr (10, [.ref a_2, .ref b_3, .int (nI 0)])), (a_2, .inl (k_4, 8, .inl (fun _ => 0))), (b_3, .inl (j_5, 64, .inl (fun _ => 0))), (q_8, .inr (1, [.ref q_9, .int (nI 0)])), (q_9, .inl (k_10, 166, .inl (fun _ => 0)))] := hD
  have hK : va_K (dC, dI) CL [(k_4, .int), (j_5, .int), (k_10, .byte)] s := hK
  refine va_putF (D := (dC, dI)) (ci := 9) (v := .ref q_8) (ty := (.object "ThresholdBench$Row")) (C := R_Dig) (T := F_Dig) (N := 5) hx hb hts i_Dig t_Dig t_Dig_ok n_Dig hown hK hP hD hS 0 rfl rfl 1 (by decide) (hts _ m_65) (fun _ h9 => h9) rfl hin rfl (by decide +kernel) rfl rfl (Nat.le_of_ble_eq_true rfl) d_Dig_init_26 (fun H locs hP hD hS => ?_)
  have hP : va_P (dC, dI) CL [(h0, .inr (9, [.ref q_1, .ref q_8, .null, .null, .null])), (q_1, .inr (10, [.ref a_2, .ref b_3, .int (nI 0)])), (a_2, .inl (k_4, 8, .inl (fun _ => 0))), (b_3, .inl (j_5, 64, .inl (fun _ => 0))), (q_8, .inr (1, [.ref q_9, .int (nI 0)])), (q_9, .inl (k_10, 166, .inl (fun _ => 0)))] H := hP
  have hD : va_D A [(h0, .inr (9, [.ref q_1, .ref q_8, .null, .null, .null])), (q_1, .inr (10, [.ref a_2, .ref b_3, .int (nI 0)])), (a_2, .inl (k_4, 8, .inl (fun _ => 0))), (b_3, .inl (j_5, 64, .inl (fun _ => 0))), (q_8, .inr (1, [.ref q_9, .int (nI 0)])), (q_9, .inl (k_10, 166, .inl (fun _ => 0)))] := hD
  refine lv_aload_n hx hb d_Dig_init_29 rfl (lv_at hl 0 rfl) ?_
  refine va_new (ci := 1) (fs := [.null, .int (nI 0)]) (C := R_Row) (T := F_Row) (N := 2) hx hb hts i_Row t_Row t_Row_ok hown (hts _ m_60) (hts _ m_61) (hts _ m_10) hK hP hD hS hA rfl f_Row (Nat.le_of_ble_eq_true rfl) (Nat.le_of_ble_eq_true rfl) d_Dig_init_30 (fun q_13 H hP hD hS => ?_)
  have hP : va_P (dC, dI) CL [(h0, .inr (9, [.ref q_1, .ref q_8, .null, .null, .null])), (q_1, .inr (10, [.ref a_2, .ref b_3, .int (nI 0)])), (a_2, .inl (k_4, 8, .inl (fun _ => 0))), (b_3, .inl (j_5, 64, .inl (fun _ => 0))), (q_8, .inr (1, [.ref q_9, .int (nI 0)])), (q_9, .inl (k_10, 166, .inl (fun _ => 0))), (q_13, .inr (1, [.null, .int (nI 0)]))] H := hP
  have hD : va_D A [(h0, .inr (9, [.ref q_1, .ref q_8, .null, .null, .null])), (q_1, .inr (10, [.ref a_2, .ref b_3, .int (nI 0)])), (a_2, .inl (k_4, 8, .inl (fun _ => 0))), (b_3, .inl (j_5, 64, .inl (fun _ => 0))), (q_8, .inr (1, [.ref q_9, .int (nI 0)])), (q_9, .inl (k_10, 166, .inl (fun _ => 0))), (q_13, .inr (1, [.null, .int (nI 0)]))] := hD
  refine lv_dup hx hb d_Dig_init_33 rfl ?_
  refine lv_sipush (v := (nI 784)) hx hb d_Dig_init_34 (by decide +kernel) ?_
  refine k_finv (wr := [(h0, .inr (9, [.ref q_1, .ref q_8, .null, .null, .null])), (q_1, .inr (10, [.ref a_2, .ref b_3, .int (nI 0)])), (a_2, .inl (k_4, 8, .inl (fun _ => 0))), (b_3, .inl (j_5, 64, .inl (fun _ => 0))), (q_8, .inr (1, [.ref q_9, .int (nI 0)])), (q_9, .inl (k_10, 166, .inl (fun _ => 0)))]) [6] [0, 1, 2, 3, 4, 5] (k_runI (n := 1) (As := [.int (nI 784)]) (rest := [.ref q_13, .ref h0]) (wc := [(q_13, .inr (1, [.null, .int (nI 0)]))]) ⟨hx, hb, hml, hown, hts⟩ (c_Row_init l dC dI q_13 784 _ (by omega)) (kg_code m_62) m_10 m_63 m_64 rfl (by decide +kernel) rfl rfl ⟨Nat.le_of_ble_eq_true rfl, Nat.le_of_ble_eq_true rfl⟩ [6] [] hP hD hK hS hA hZ hN (by rfl) (by decide) (by rfl) rfl hl.1 rfl (Nat.le_of_ble_eq_true rfl) d_Dig_init_37 ⟨(Nat.le_of_ble_eq_true rfl), (Nat.le_of_ble_eq_true rfl)⟩) hP hD hK hS hA (by rfl) (by rfl) (by decide) (by decide) (fun u9 H locs hw_17 hP hD hK hS => ?_)
  obtain ⟨q_14, k_15⟩ := u9
  try dsimp only at hw_17
  have hP : va_P (dC, dI) CL [(h0, .inr (9, [.ref q_1, .ref q_8, .null, .null, .null])), (q_1, .inr (10, [.ref a_2, .ref b_3, .int (nI 0)])), (a_2, .inl (k_4, 8, .inl (fun _ => 0))), (b_3, .inl (j_5, 64, .inl (fun _ => 0))), (q_8, .inr (1, [.ref q_9, .int (nI 0)])), (q_9, .inl (k_10, 166, .inl (fun _ => 0))), (q_13, .inr (1, [.ref q_14, .int (nI 0)])), (q_14, .inl (k_15, 784, .inl (fun _ => 0)))] H := hP
  have hD : va_D A [(h0, .inr (9, [.ref q_1, .ref q_8, .null, .null, .null])), (q_1, .inr (10, [.ref a_2, .ref b_3, .int (nI 0)])), (a_2, .inl (k_4, 8, .inl (fun _ => 0))), (b_3, .inl (j_5, 64, .inl (fun _ => 0))), (q_8, .inr (1, [.ref q_9, .int (nI 0)])), (q_9, .inl (k_10, 166, .inl (fun _ => 0))), (q_13, .inr (1, [.ref q_14, .int (nI 0)])), (q_14, .inl (k_15, 784, .inl (fun _ => 0)))] := hD
  have hK : va_K (dC, dI) CL [(k_4, .int), (j_5, .int), (k_10, .byte), (k_15, .byte)] s := hK
  refine va_putF (D := (dC, dI)) (ci := 9) (v := .ref q_13) (ty := (.object "ThresholdBench$Row")) (C := R_Dig) (T := F_Dig) (N := 5) hx hb hts i_Dig t_Dig t_Dig_ok n_Dig hown hK hP hD hS 0 rfl rfl 2 (by decide) (hts _ m_66) (fun _ h9 => h9) rfl hin rfl (by decide +kernel) rfl rfl (Nat.le_of_ble_eq_true rfl) d_Dig_init_40 (fun H locs hP hD hS => ?_)
  have hP : va_P (dC, dI) CL [(h0, .inr (9, [.ref q_1, .ref q_8, .ref q_13, .null, .null])), (q_1, .inr (10, [.ref a_2, .ref b_3, .int (nI 0)])), (a_2, .inl (k_4, 8, .inl (fun _ => 0))), (b_3, .inl (j_5, 64, .inl (fun _ => 0))), (q_8, .inr (1, [.ref q_9, .int (nI 0)])), (q_9, .inl (k_10, 166, .inl (fun _ => 0))), (q_13, .inr (1, [.ref q_14, .int (nI 0)])), (q_14, .inl (k_15, 784, .inl (fun _ => 0)))] H := hP
  have hD : va_D A [(h0, .inr (9, [.ref q_1, .ref q_8, .ref q_13, .null, .null])), (q_1, .inr (10, [.ref a_2, .ref b_3, .int (nI 0)])), (a_2, .inl (k_4, 8, .inl (fun _ => 0))), (b_3, .inl (j_5, 64, .inl (fun _ => 0))), (q_8, .inr (1, [.ref q_9, .int (nI 0)])), (q_9, .inl (k_10, 166, .inl (fun _ => 0))), (q_13, .inr (1, [.ref q_14, .int (nI 0)])), (q_14, .inl (k_15, 784, .inl (fun _ => 0)))] := hD
  refine lv_aload_n hx hb d_Dig_init_43 rfl (lv_at hl 0 rfl) ?_
  refine va_new (ci := 1) (fs := [.null, .int (nI 0)]) (C := R_Row) (T := F_Row) (N := 2) hx hb hts i_Row t_Row t_Row_ok hown (hts _ m_60) (hts _ m_61) (hts _ m_10) hK hP hD hS hA rfl f_Row (Nat.le_of_ble_eq_true rfl) (Nat.le_of_ble_eq_true rfl) d_Dig_init_44 (fun q_18 H hP hD hS => ?_)
  have hP : va_P (dC, dI) CL [(h0, .inr (9, [.ref q_1, .ref q_8, .ref q_13, .null, .null])), (q_1, .inr (10, [.ref a_2, .ref b_3, .int (nI 0)])), (a_2, .inl (k_4, 8, .inl (fun _ => 0))), (b_3, .inl (j_5, 64, .inl (fun _ => 0))), (q_8, .inr (1, [.ref q_9, .int (nI 0)])), (q_9, .inl (k_10, 166, .inl (fun _ => 0))), (q_13, .inr (1, [.ref q_14, .int (nI 0)])), (q_14, .inl (k_15, 784, .inl (fun _ => 0))), (q_18, .inr (1, [.null, .int (nI 0)]))] H := hP
  have hD : va_D A [(h0, .inr (9, [.ref q_1, .ref q_8, .ref q_13, .null, .null])), (q_1, .inr (10, [.ref a_2, .ref b_3, .int (nI 0)])), (a_2, .inl (k_4, 8, .inl (fun _ => 0))), (b_3, .inl (j_5, 64, .inl (fun _ => 0))), (q_8, .inr (1, [.ref q_9, .int (nI 0)])), (q_9, .inl (k_10, 166, .inl (fun _ => 0))), (q_13, .inr (1, [.ref q_14, .int (nI 0)])), (q_14, .inl (k_15, 784, .inl (fun _ => 0))), (q_18, .inr (1, [.null, .int (nI 0)]))] := hD
  refine lv_dup hx hb d_Dig_init_47 rfl ?_
  refine lv_bipush (v := (nI 32)) hx hb d_Dig_init_48 (by decide +kernel) ?_
  refine k_finv (wr := [(h0, .inr (9, [.ref q_1, .ref q_8, .ref q_13, .null, .null])), (q_1, .inr (10, [.ref a_2, .ref b_3, .int (nI 0)])), (a_2, .inl (k_4, 8, .inl (fun _ => 0))), (b_3, .inl (j_5, 64, .inl (fun _ => 0))), (q_8, .inr (1, [.ref q_9, .int (nI 0)])), (q_9, .inl (k_10, 166, .inl (fun _ => 0))), (q_13, .inr (1, [.ref q_14, .int (nI 0)])), (q_14, .inl (k_15, 784, .inl (fun _ => 0)))]) [8] [0, 1, 2, 3, 4, 5, 6, 7] (k_runI (n := 1) (As := [.int (nI 32)]) (rest := [.ref q_18, .ref h0]) (wc := [(q_18, .inr (1, [.null, .int (nI 0)]))]) ⟨hx, hb, hml, hown, hts⟩ (c_Row_init l dC dI q_18 32 _ (by omega)) (kg_code m_62) m_10 m_63 m_64 rfl (by decide +kernel) rfl rfl ⟨Nat.le_of_ble_eq_true rfl, Nat.le_of_ble_eq_true rfl⟩ [8] [] hP hD hK hS hA hZ hN (by rfl) (by decide) (by rfl) rfl hl.1 rfl (Nat.le_of_ble_eq_true rfl) d_Dig_init_50 ⟨(Nat.le_of_ble_eq_true rfl), (Nat.le_of_ble_eq_true rfl)⟩) hP hD hK hS hA (by rfl) (by rfl) (by decide) (by decide) (fun u9 H locs hw_22 hP hD hK hS => ?_)
  obtain ⟨q_19, k_20⟩ := u9
  try dsimp only at hw_22
  have hP : va_P (dC, dI) CL [(h0, .inr (9, [.ref q_1, .ref q_8, .ref q_13, .null, .null])), (q_1, .inr (10, [.ref a_2, .ref b_3, .int (nI 0)])), (a_2, .inl (k_4, 8, .inl (fun _ => 0))), (b_3, .inl (j_5, 64, .inl (fun _ => 0))), (q_8, .inr (1, [.ref q_9, .int (nI 0)])), (q_9, .inl (k_10, 166, .inl (fun _ => 0))), (q_13, .inr (1, [.ref q_14, .int (nI 0)])), (q_14, .inl (k_15, 784, .inl (fun _ => 0))), (q_18, .inr (1, [.ref q_19, .int (nI 0)])), (q_19, .inl (k_20, 32, .inl (fun _ => 0)))] H := hP
  have hD : va_D A [(h0, .inr (9, [.ref q_1, .ref q_8, .ref q_13, .null, .null])), (q_1, .inr (10, [.ref a_2, .ref b_3, .int (nI 0)])), (a_2, .inl (k_4, 8, .inl (fun _ => 0))), (b_3, .inl (j_5, 64, .inl (fun _ => 0))), (q_8, .inr (1, [.ref q_9, .int (nI 0)])), (q_9, .inl (k_10, 166, .inl (fun _ => 0))), (q_13, .inr (1, [.ref q_14, .int (nI 0)])), (q_14, .inl (k_15, 784, .inl (fun _ => 0))), (q_18, .inr (1, [.ref q_19, .int (nI 0)])), (q_19, .inl (k_20, 32, .inl (fun _ => 0)))] := hD
  have hK : va_K (dC, dI) CL [(k_4, .int), (j_5, .int), (k_10, .byte), (k_15, .byte), (k_20, .byte)] s := hK
  refine va_putF (D := (dC, dI)) (ci := 9) (v := .ref q_18) (ty := (.object "ThresholdBench$Row")) (C := R_Dig) (T := F_Dig) (N := 5) hx hb hts i_Dig t_Dig t_Dig_ok n_Dig hown hK hP hD hS 0 rfl rfl 3 (by decide) (hts _ m_67) (fun _ h9 => h9) rfl hin rfl (by decide +kernel) rfl rfl (Nat.le_of_ble_eq_true rfl) d_Dig_init_53 (fun H locs hP hD hS => ?_)
  have hP : va_P (dC, dI) CL [(h0, .inr (9, [.ref q_1, .ref q_8, .ref q_13, .ref q_18, .null])), (q_1, .inr (10, [.ref a_2, .ref b_3, .int (nI 0)])), (a_2, .inl (k_4, 8, .inl (fun _ => 0))), (b_3, .inl (j_5, 64, .inl (fun _ => 0))), (q_8, .inr (1, [.ref q_9, .int (nI 0)])), (q_9, .inl (k_10, 166, .inl (fun _ => 0))), (q_13, .inr (1, [.ref q_14, .int (nI 0)])), (q_14, .inl (k_15, 784, .inl (fun _ => 0))), (q_18, .inr (1, [.ref q_19, .int (nI 0)])), (q_19, .inl (k_20, 32, .inl (fun _ => 0)))] H := hP
  have hD : va_D A [(h0, .inr (9, [.ref q_1, .ref q_8, .ref q_13, .ref q_18, .null])), (q_1, .inr (10, [.ref a_2, .ref b_3, .int (nI 0)])), (a_2, .inl (k_4, 8, .inl (fun _ => 0))), (b_3, .inl (j_5, 64, .inl (fun _ => 0))), (q_8, .inr (1, [.ref q_9, .int (nI 0)])), (q_9, .inl (k_10, 166, .inl (fun _ => 0))), (q_13, .inr (1, [.ref q_14, .int (nI 0)])), (q_14, .inl (k_15, 784, .inl (fun _ => 0))), (q_18, .inr (1, [.ref q_19, .int (nI 0)])), (q_19, .inl (k_20, 32, .inl (fun _ => 0)))] := hD
  refine lv_aload_n hx hb d_Dig_init_56 rfl (lv_at hl 0 rfl) ?_
  refine va_new (ci := 1) (fs := [.null, .int (nI 0)]) (C := R_Row) (T := F_Row) (N := 2) hx hb hts i_Row t_Row t_Row_ok hown (hts _ m_60) (hts _ m_61) (hts _ m_10) hK hP hD hS hA rfl f_Row (Nat.le_of_ble_eq_true rfl) (Nat.le_of_ble_eq_true rfl) d_Dig_init_57 (fun q_23 H hP hD hS => ?_)
  have hP : va_P (dC, dI) CL [(h0, .inr (9, [.ref q_1, .ref q_8, .ref q_13, .ref q_18, .null])), (q_1, .inr (10, [.ref a_2, .ref b_3, .int (nI 0)])), (a_2, .inl (k_4, 8, .inl (fun _ => 0))), (b_3, .inl (j_5, 64, .inl (fun _ => 0))), (q_8, .inr (1, [.ref q_9, .int (nI 0)])), (q_9, .inl (k_10, 166, .inl (fun _ => 0))), (q_13, .inr (1, [.ref q_14, .int (nI 0)])), (q_14, .inl (k_15, 784, .inl (fun _ => 0))), (q_18, .inr (1, [.ref q_19, .int (nI 0)])), (q_19, .inl (k_20, 32, .inl (fun _ => 0))), (q_23, .inr (1, [.null, .int (nI 0)]))] H := hP
  have hD : va_D A [(h0, .inr (9, [.ref q_1, .ref q_8, .ref q_13, .ref q_18, .null])), (q_1, .inr (10, [.ref a_2, .ref b_3, .int (nI 0)])), (a_2, .inl (k_4, 8, .inl (fun _ => 0))), (b_3, .inl (j_5, 64, .inl (fun _ => 0))), (q_8, .inr (1, [.ref q_9, .int (nI 0)])), (q_9, .inl (k_10, 166, .inl (fun _ => 0))), (q_13, .inr (1, [.ref q_14, .int (nI 0)])), (q_14, .inl (k_15, 784, .inl (fun _ => 0))), (q_18, .inr (1, [.ref q_19, .int (nI 0)])), (q_19, .inl (k_20, 32, .inl (fun _ => 0))), (q_23, .inr (1, [.null, .int (nI 0)]))] := hD
  refine lv_dup hx hb d_Dig_init_60 rfl ?_
  refine lv_bipush (v := (nI 64)) hx hb d_Dig_init_61 (by decide +kernel) ?_
  refine k_finv (wr := [(h0, .inr (9, [.ref q_1, .ref q_8, .ref q_13, .ref q_18, .null])), (q_1, .inr (10, [.ref a_2, .ref b_3, .int (nI 0)])), (a_2, .inl (k_4, 8, .inl (fun _ => 0))), (b_3, .inl (j_5, 64, .inl (fun _ => 0))), (q_8, .inr (1, [.ref q_9, .int (nI 0)])), (q_9, .inl (k_10, 166, .inl (fun _ => 0))), (q_13, .inr (1, [.ref q_14, .int (nI 0)])), (q_14, .inl (k_15, 784, .inl (fun _ => 0))), (q_18, .inr (1, [.ref q_19, .int (nI 0)])), (q_19, .inl (k_20, 32, .inl (fun _ => 0)))]) [10] [0, 1, 2, 3, 4, 5, 6, 7, 8, 9] (k_runI (n := 1) (As := [.int (nI 64)]) (rest := [.ref q_23, .ref h0]) (wc := [(q_23, .inr (1, [.null, .int (nI 0)]))]) ⟨hx, hb, hml, hown, hts⟩ (c_Row_init l dC dI q_23 64 _ (by omega)) (kg_code m_62) m_10 m_63 m_64 rfl (by decide +kernel) rfl rfl ⟨Nat.le_of_ble_eq_true rfl, Nat.le_of_ble_eq_true rfl⟩ [10] [] hP hD hK hS hA hZ hN (by rfl) (by decide) (by rfl) rfl hl.1 rfl (Nat.le_of_ble_eq_true rfl) d_Dig_init_63 ⟨(Nat.le_of_ble_eq_true rfl), (Nat.le_of_ble_eq_true rfl)⟩) hP hD hK hS hA (by rfl) (by rfl) (by decide) (by decide) (fun u9 H locs hw_27 hP hD hK hS => ?_)
  obtain ⟨q_24, k_25⟩ := u9
  try dsimp only at hw_27
  have hP : va_P (dC, dI) CL [(h0, .inr (9, [.ref q_1, .ref q_8, .ref q_13, .ref q_18, .null])), (q_1, .inr (10, [.ref a_2, .ref b_3, .int (nI 0)])), (a_2, .inl (k_4, 8, .inl (fun _ => 0))), (b_3, .inl (j_5, 64, .inl (fun _ => 0))), (q_8, .inr (1, [.ref q_9, .int (nI 0)])), (q_9, .inl (k_10, 166, .inl (fun _ => 0))), (q_13, .inr (1, [.ref q_14, .int (nI 0)])), (q_14, .inl (k_15, 784, .inl (fun _ => 0))), (q_18, .inr (1, [.ref q_19, .int (nI 0)])), (q_19, .inl (k_20, 32, .inl (fun _ => 0))), (q_23, .inr (1, [.ref q_24, .int (nI 0)])), (q_24, .inl (k_25, 64, .inl (fun _ => 0)))] H := hP
  have hD : va_D A [(h0, .inr (9, [.ref q_1, .ref q_8, .ref q_13, .ref q_18, .null])), (q_1, .inr (10, [.ref a_2, .ref b_3, .int (nI 0)])), (a_2, .inl (k_4, 8, .inl (fun _ => 0))), (b_3, .inl (j_5, 64, .inl (fun _ => 0))), (q_8, .inr (1, [.ref q_9, .int (nI 0)])), (q_9, .inl (k_10, 166, .inl (fun _ => 0))), (q_13, .inr (1, [.ref q_14, .int (nI 0)])), (q_14, .inl (k_15, 784, .inl (fun _ => 0))), (q_18, .inr (1, [.ref q_19, .int (nI 0)])), (q_19, .inl (k_20, 32, .inl (fun _ => 0))), (q_23, .inr (1, [.ref q_24, .int (nI 0)])), (q_24, .inl (k_25, 64, .inl (fun _ => 0)))] := hD
  have hK : va_K (dC, dI) CL [(k_4, .int), (j_5, .int), (k_10, .byte), (k_15, .byte), (k_20, .byte), (k_25, .byte)] s := hK
  refine va_putF (D := (dC, dI)) (ci := 9) (v := .ref q_23) (ty := (.object "ThresholdBench$Row")) (C := R_Dig) (T := F_Dig) (N := 5) hx hb hts i_Dig t_Dig t_Dig_ok n_Dig hown hK hP hD hS 0 rfl rfl 4 (by decide) (hts _ m_68) (fun _ h9 => h9) rfl hin rfl (by decide +kernel) rfl rfl (Nat.le_of_ble_eq_true rfl) d_Dig_init_66 (fun H locs hP hD hS => ?_)
  have hP : va_P (dC, dI) CL [(h0, .inr (9, [.ref q_1, .ref q_8, .ref q_13, .ref q_18, .ref q_23])), (q_1, .inr (10, [.ref a_2, .ref b_3, .int (nI 0)])), (a_2, .inl (k_4, 8, .inl (fun _ => 0))), (b_3, .inl (j_5, 64, .inl (fun _ => 0))), (q_8, .inr (1, [.ref q_9, .int (nI 0)])), (q_9, .inl (k_10, 166, .inl (fun _ => 0))), (q_13, .inr (1, [.ref q_14, .int (nI 0)])), (q_14, .inl (k_15, 784, .inl (fun _ => 0))), (q_18, .inr (1, [.ref q_19, .int (nI 0)])), (q_19, .inl (k_20, 32, .inl (fun _ => 0))), (q_23, .inr (1, [.ref q_24, .int (nI 0)])), (q_24, .inl (k_25, 64, .inl (fun _ => 0)))] H := hP
  have hD : va_D A [(h0, .inr (9, [.ref q_1, .ref q_8, .ref q_13, .ref q_18, .ref q_23])), (q_1, .inr (10, [.ref a_2, .ref b_3, .int (nI 0)])), (a_2, .inl (k_4, 8, .inl (fun _ => 0))), (b_3, .inl (j_5, 64, .inl (fun _ => 0))), (q_8, .inr (1, [.ref q_9, .int (nI 0)])), (q_9, .inl (k_10, 166, .inl (fun _ => 0))), (q_13, .inr (1, [.ref q_14, .int (nI 0)])), (q_14, .inl (k_15, 784, .inl (fun _ => 0))), (q_18, .inr (1, [.ref q_19, .int (nI 0)])), (q_19, .inl (k_20, 32, .inl (fun _ => 0))), (q_23, .inr (1, [.ref q_24, .int (nI 0)])), (q_24, .inl (k_25, 64, .inl (fun _ => 0)))] := hD
  have hP9 := hP.sub (ws' := [(h0, .inr (9, [.ref q_1, .ref q_8, .ref q_13, .ref q_18, .ref q_23])), (q_1, .inr (10, [.ref a_2, .ref b_3, .int (nI 0)])), (a_2, .inl (k_4, 8, .inl (fun _ => 0))), (b_3, .inl (j_5, 64, .inl (fun _ => 0)))]) [0, 1, 2, 3] rfl
  have hD9 := hD.sub (ws' := [(h0, .inr (9, [.ref q_1, .ref q_8, .ref q_13, .ref q_18, .ref q_23])), (q_1, .inr (10, [.ref a_2, .ref b_3, .int (nI 0)])), (a_2, .inl (k_4, 8, .inl (fun _ => 0))), (b_3, .inl (j_5, 64, .inl (fun _ => 0)))]) [0, 1, 2, 3] (by decide) rfl
  have hK9 := hK.sub (tys' := [(k_4, .int), (j_5, .int)]) [0, 1] rfl
  rw [hQg]
  exact W.vret hx hb hr (fun t ht hW => ⟨⟨(q_1, a_2, b_3, k_4, j_5, q_8, q_13, q_18, q_23), rfl, trivial, by rw [ht]; exact hP9, va_K.moved hW.alike hK9, hD9⟩, hS.F ht⟩) hS.2.2 d_Dig_init_69

-- ThresholdBench$Signing.<init>
set_option maxHeartbeats 4000000 in
set_option maxRecDepth 100000 in
theorem c_Sig_init (l : Launch) (dC : Nat → ClassId) (dI : Nat → Nat → Nat) (h0 : Nat) (sz : Nat)  : Met l y_Sig_init (.code y_Sig_init prog_10_method_1_code 1 (none) :: AW) ({ frames := 2, cells := 32, slots := 258, locals := 32 } : Room) (va_Pc [.ref h0] (pw (dC, dI) CL [(h0, .inr (2, [.int (nI 0), .int (nI 0), .null, .null, .null, .null, .null]))] [] sz)) (va_Qv (fun u : Nat × Nat × Nat × Nat × Nat => True) (fun (u : Nat × Nat × Nat × Nat × Nat) t => qw (dC, dI) CL (va_A [(h0, .inr (2, [.int (nI 0), .int (nI 0), .null, .null, .null, .null, .null]))] sz) ((fun u : Nat × Nat × Nat × Nat × Nat => [(h0, .inr (2, [.int (nI 0), .int (nI 0), .ref u.1, .ref u.2.1, .ref u.2.2.1, .ref u.2.2.2.1, .ref u.2.2.2.2]))]) u) ((fun u : Nat × Nat × Nat × Nat × Nat => []) u) t) (va_A [(h0, .inr (2, [.int (nI 0), .int (nI 0), .null, .null, .null, .null, .null]))] sz)) 32 258 (va_A [(h0, .inr (2, [.int (nI 0), .int (nI 0), .null, .null, .null, .null, .null]))] sz) := by
  refine Met.ofW (cc := prog_10_method_1_code) (maxL := 1) (ret := none) (by decide) rfl ?_
  intro p e s m args below meth c s₁ B hml hv
  obtain ⟨rfl, hsz, hP, hK, hD0, hZ, hN⟩ := hv
  have hx := B.exec
  have hb := B.bytes
  have hr := B.returns
  have hts := kw (atoms_spec (ws := .code y_Sig_init prog_10_method_1_code 1 (none) :: AW) B.pre)
  have hown : s.vm.findClass R_Sig = some m.cls := findClass_of_methodNamed B.named
  have hlocks := B.notSynchronized
  have hin : meth.name = "<init>" := (name_of_methodNamed B.named B.method).1
  subst hsz
  have hD := hD0.self (sz := s.heap.size)
  obtain ⟨Qg, hQg⟩ : ∃ q, q = MQ below (va_Qv (fun u : Nat × Nat × Nat × Nat × Nat => True) (fun (u : Nat × Nat × Nat × Nat × Nat) t => qw (dC, dI) CL (va_A [(h0, .inr (2, [.int (nI 0), .int (nI 0), .null, .null, .null, .null, .null]))] s.heap.size) ((fun u : Nat × Nat × Nat × Nat × Nat => [(h0, .inr (2, [.int (nI 0), .int (nI 0), .ref u.1, .ref u.2.1, .ref u.2.2.1, .ref u.2.2.2.1, .ref u.2.2.2.2]))]) u) ((fun u : Nat × Nat × Nat × Nat × Nat => []) u) t) (va_A [(h0, .inr (2, [.int (nI 0), .int (nI 0), .null, .null, .null, .null, .null]))] s.heap.size)) ([.ref h0] : List Value).toArray s 32 258 (va_A [(h0, .inr (2, [.int (nI 0), .int (nI 0), .null, .null, .null, .null, .null]))] s.heap.size) := ⟨_, rfl⟩
  rw [← hQg]
  generalize hAe : va_A [(h0, .inr (2, [.int (nI 0), .int (nI 0), .null, .null, .null, .null, .null]))] s.heap.size = A at hD hZ hQg
  have hA : ∀ q : Nat, s.heap.size ≤ q → A q := fun q h => by rw [← hAe]; exact Or.inr h
  have hS : va_S A s.heap s.heap [] := va_S.rf
  have hP : va_P (dC, dI) CL [(h0, .inr (2, [.int (nI 0), .int (nI 0), .null, .null, .null, .null, .null]))] s.heap := hP
  have hl := lv_entry ([.ref h0]) (n := 1) (Nat.le_of_ble_eq_true rfl)
  rw [lg_entry_eq]
  generalize (lg_sl ([.ref h0]) ++ List.replicate (1 - (lg_sl ([.ref h0])).length) Slot.unset).toArray = ls at hl ⊢
  have hl : lv_has ls 1 [(0, .ref h0)] := hl
  show W p l e ({ frames := 2, cells := 32, slots := 258, locals := 32 } : Room) s m ([.ref h0] : List Value).toArray below meth c s.heap [] 0 0 Qg (F0 m 0 ls [])
  refine lv_aload_n hx hb d_Sig_init_0 rfl (lv_at hl 0 rfl) ?_
  refine W.objInit hx hb hown (hts _ m_69) (hts _ m_1) (hts _ m_2) rfl (by rw [hml]; exact hl.1) rfl d_Sig_init_1 (Nat.le_of_ble_eq_true rfl) (Nat.le_of_ble_eq_true rfl) ?_
  refine W.eq (g2 := F0 m 4 ls []) rfl ?_
  refine lv_aload_n hx hb d_Sig_init_4 rfl (lv_at hl 0 rfl) ?_
  refine va_new (ci := 6) (fs := [.null, .null, .null, .int (nI 0)]) (C := R_Poi) (T := F_Poi) (N := 4) hx hb hts i_Poi t_Poi t_Poi_ok hown (hts _ m_70) (hts _ m_19) (hts _ m_20) hK hP hD hS hA rfl f_Poi (Nat.le_of_ble_eq_true rfl) (Nat.le_of_ble_eq_true rfl) d_Sig_init_5 (fun q_1 H hP hD hS => ?_)
  have hP : va_P (dC, dI) CL [(h0, .inr (2, [.int (nI 0), .int (nI 0), .null, .null, .null, .null, .null])), (q_1, .inr (6, [.null, .null, .null, .int (nI 0)]))] H := hP
  have hD : va_D A [(h0, .inr (2, [.int (nI 0), .int (nI 0), .null, .null, .null, .null, .null])), (q_1, .inr (6, [.null, .null, .null, .int (nI 0)]))] := hD
  refine lv_dup hx hb d_Sig_init_8 rfl ?_
  refine k_finv (wr := [(h0, .inr (2, [.int (nI 0), .int (nI 0), .null, .null, .null, .null, .null]))]) [1] [0] (k_runI (n := 0) (As := []) (rest := [.ref q_1, .ref h0]) (wc := [(q_1, .inr (6, [.null, .null, .null, .int (nI 0)]))]) ⟨hx, hb, hml, hown, hts⟩ (c_Poi_init l dC dI q_1 _ ) (kg_code m_21) m_20 m_71 m_23 rfl (by decide +kernel) rfl rfl ⟨Nat.le_of_ble_eq_true rfl, Nat.le_of_ble_eq_true rfl⟩ [1] [] hP hD hK hS hA hZ hN (by rfl) (by decide) (by rfl) rfl hl.1 rfl (Nat.le_of_ble_eq_true rfl) d_Sig_init_9 ⟨(Nat.le_of_ble_eq_true rfl), (Nat.le_of_ble_eq_true rfl)⟩) hP hD hK hS hA (by rfl) (by rfl) (by decide) (by decide) (fun u9 H locs hw_6 hP hD hK hS => ?_)
  obtain ⟨a_2, b_3, d_4⟩ := u9
  try dsimp only at hw_6
  have hP : va_P (dC, dI) CL [(h0, .inr (2, [.int (nI 0), .int (nI 0), .null, .null, .null, .null, .null])), (q_1, .inr (6, [.ref a_2, .ref b_3, .ref d_4, .int (nI 1)]))] H := hP
  have hD : va_D A [(h0, .inr (2, [.int (nI 0), .int (nI 0), .null, .null, .null, .null, .null])), (q_1, .inr (6, [.ref a_2, .ref b_3, .ref d_4, .int (nI 1)]))] := hD
  have hK : va_K (dC, dI) CL [] s := hK
  refine va_putF (D := (dC, dI)) (ci := 2) (v := .ref q_1) (ty := (.object "ThresholdBench$Point")) (C := R_Sig) (T := F_Sig) (N := 7) hx hb hts i_Sig t_Sig t_Sig_ok n_Sig hown hK hP hD hS 0 rfl rfl 2 (by decide) (hts _ m_72) (fun _ h9 => h9) rfl hin rfl (by decide +kernel) rfl rfl (Nat.le_of_ble_eq_true rfl) d_Sig_init_12 (fun H locs hP hD hS => ?_)
  have hP : va_P (dC, dI) CL [(h0, .inr (2, [.int (nI 0), .int (nI 0), .ref q_1, .null, .null, .null, .null])), (q_1, .inr (6, [.ref a_2, .ref b_3, .ref d_4, .int (nI 1)]))] H := hP
  have hD : va_D A [(h0, .inr (2, [.int (nI 0), .int (nI 0), .ref q_1, .null, .null, .null, .null])), (q_1, .inr (6, [.ref a_2, .ref b_3, .ref d_4, .int (nI 1)]))] := hD
  refine lv_aload_n hx hb d_Sig_init_15 rfl (lv_at hl 0 rfl) ?_
  refine lv_bipush (v := (nI 8)) hx hb d_Sig_init_16 (by decide +kernel) ?_
  refine va_newa (atype := .int) (ty := .int) (N' := 8) (a0 := (8, .inl (fun _ => 0))) hx hb (hts _ m_25) rfl hK hP hD hS hA (fun _ => rfl) (nI_pos (by omega)) (nI_clamp (by omega)) (by decide) (Nat.le_of_ble_eq_true rfl) (Nat.le_of_ble_eq_true rfl) d_Sig_init_18 (fun q_7 k_8 H hK hP hD hS => ?_)
  have hP : va_P (dC, dI) CL [(h0, .inr (2, [.int (nI 0), .int (nI 0), .ref q_1, .null, .null, .null, .null])), (q_1, .inr (6, [.ref a_2, .ref b_3, .ref d_4, .int (nI 1)])), (q_7, .inl (k_8, 8, .inl (fun _ => 0)))] H := hP
  have hD : va_D A [(h0, .inr (2, [.int (nI 0), .int (nI 0), .ref q_1, .null, .null, .null, .null])), (q_1, .inr (6, [.ref a_2, .ref b_3, .ref d_4, .int (nI 1)])), (q_7, .inl (k_8, 8, .inl (fun _ => 0)))] := hD
  refine va_putF (D := (dC, dI)) (ci := 2) (v := .ref q_7) (ty := (.array .int)) (C := R_Sig) (T := F_Sig) (N := 7) hx hb hts i_Sig t_Sig t_Sig_ok n_Sig hown hK hP hD hS 0 rfl rfl 3 (by decide) (hts _ m_73) (fun _ h9 => h9) rfl hin rfl (by decide +kernel) rfl rfl (Nat.le_of_ble_eq_true rfl) d_Sig_init_20 (fun H locs hP hD hS => ?_)
  have hP : va_P (dC, dI) CL [(h0, .inr (2, [.int (nI 0), .int (nI 0), .ref q_1, .ref q_7, .null, .null, .null])), (q_1, .inr (6, [.ref a_2, .ref b_3, .ref d_4, .int (nI 1)])), (q_7, .inl (k_8, 8, .inl (fun _ => 0)))] H := hP
  have hD : va_D A [(h0, .inr (2, [.int (nI 0), .int (nI 0), .ref q_1, .ref q_7, .null, .null, .null])), (q_1, .inr (6, [.ref a_2, .ref b_3, .ref d_4, .int (nI 1)])), (q_7, .inl (k_8, 8, .inl (fun _ => 0)))] := hD
  refine lv_aload_n hx hb d_Sig_init_23 rfl (lv_at hl 0 rfl) ?_
  refine lv_bipush (v := (nI 8)) hx hb d_Sig_init_24 (by decide +kernel) ?_
  refine lv_bipush (v := (nI 8)) hx hb d_Sig_init_26 (by decide +kernel) ?_
  have hP0 : va_P (dC, dI) CL ([(h0, .inr (2, [.int (nI 0), .int (nI 0), .ref q_1, .ref q_7, .null, .null, .null])), (q_1, .inr (6, [.ref a_2, .ref b_3, .ref d_4, .int (nI 1)])), (q_7, .inl (k_8, 8, .inl (fun _ => 0)))] ++ va_pl [] (fun _ => .inr (0, []))) H := hP
  have hD0 : va_D A ([(h0, .inr (2, [.int (nI 0), .int (nI 0), .ref q_1, .ref q_7, .null, .null, .null])), (q_1, .inr (6, [.ref a_2, .ref b_3, .ref d_4, .int (nI 1)])), (q_7, .inl (k_8, 8, .inl (fun _ => 0)))] ++ va_pl [] (fun _ => .inr (0, []))) := hD
  refine va_mna (X := [(h0, .inr (2, [.int (nI 0), .int (nI 0), .ref q_1, .ref q_7, .null, .null, .null])), (q_1, .inr (6, [.ref a_2, .ref b_3, .ref d_4, .int (nI 1)])), (q_7, .inl (k_8, 8, .inl (fun _ => 0)))]) (L := []) (ty := .int) (N' := 8) (K' := 8) (z := (8, .inl (fun _ => 0))) hx hb hown (hts _ m_74) hN.2.2.2.2.2.2.2.2 (hts _ m_25) (hK.2 0 _ rfl).2 hK hP0 hD0 hS hA (nI_pos (by omega)) (nI_pos (by omega)) (nI_clamp (by omega)) (nI_clamp (by omega)) (by decide) (by decide) (by decide) rfl rfl (Nat.le_of_ble_eq_true rfl) (Nat.le_of_ble_eq_true rfl) (fun _ => arrV_new _ _ _) d_Sig_init_28 (fun q_9 r_11 k_10 H _ _ hK hP hD hS => ?_)
  have hP : va_P (dC, dI) CL [(h0, .inr (2, [.int (nI 0), .int (nI 0), .ref q_1, .ref q_7, .null, .null, .null])), (q_1, .inr (6, [.ref a_2, .ref b_3, .ref d_4, .int (nI 1)])), (q_7, .inl (k_8, 8, .inl (fun _ => 0))), (q_9, .inl (k_10, 8, .inr (.inr (.inr (.inr (fun i => if i < 8 then some (r_11 i) else none))))))] H := hP.sub [0, 1, 2, 3] rfl
  have hD : va_D A [(h0, .inr (2, [.int (nI 0), .int (nI 0), .ref q_1, .ref q_7, .null, .null, .null])), (q_1, .inr (6, [.ref a_2, .ref b_3, .ref d_4, .int (nI 1)])), (q_7, .inl (k_8, 8, .inl (fun _ => 0))), (q_9, .inl (k_10, 8, .inr (.inr (.inr (.inr (fun i => if i < 8 then some (r_11 i) else none))))))] := hD.sub [0, 1, 2, 3] (by decide) rfl
  refine va_putF (D := (dC, dI)) (ci := 2) (v := .ref q_9) (ty := (.array (.array .int))) (C := R_Sig) (T := F_Sig) (N := 7) hx hb hts i_Sig t_Sig t_Sig_ok n_Sig hown hK hP hD hS 0 rfl rfl 4 (by decide) (hts _ m_75) (fun _ h9 => h9) rfl hin rfl (by decide +kernel) rfl rfl (Nat.le_of_ble_eq_true rfl) d_Sig_init_32 (fun H locs hP hD hS => ?_)
  have hP : va_P (dC, dI) CL [(h0, .inr (2, [.int (nI 0), .int (nI 0), .ref q_1, .ref q_7, .ref q_9, .null, .null])), (q_1, .inr (6, [.ref a_2, .ref b_3, .ref d_4, .int (nI 1)])), (q_7, .inl (k_8, 8, .inl (fun _ => 0))), (q_9, .inl (k_10, 8, .inr (.inr (.inr (.inr (fun i => if i < 8 then some (r_11 i) else none))))))] H := hP
  have hD : va_D A [(h0, .inr (2, [.int (nI 0), .int (nI 0), .ref q_1, .ref q_7, .ref q_9, .null, .null])), (q_1, .inr (6, [.ref a_2, .ref b_3, .ref d_4, .int (nI 1)])), (q_7, .inl (k_8, 8, .inl (fun _ => 0))), (q_9, .inl (k_10, 8, .inr (.inr (.inr (.inr (fun i => if i < 8 then some (r_11 i) else none))))))] := hD
  refine lv_aload_n hx hb d_Sig_init_35 rfl (lv_at hl 0 rfl) ?_
  refine lv_bipush (v := (nI 8)) hx hb d_Sig_init_36 (by decide +kernel) ?_
  refine lv_bipush (v := (nI 8)) hx hb d_Sig_init_38 (by decide +kernel) ?_
  have hP0 : va_P (dC, dI) CL ([(h0, .inr (2, [.int (nI 0), .int (nI 0), .ref q_1, .ref q_7, .ref q_9, .null, .null])), (q_1, .inr (6, [.ref a_2, .ref b_3, .ref d_4, .int (nI 1)])), (q_7, .inl (k_8, 8, .inl (fun _ => 0))), (q_9, .inl (k_10, 8, .inr (.inr (.inr (.inr (fun i => if i < 8 then some (r_11 i) else none))))))] ++ va_pl [] (fun _ => .inr (0, []))) H := hP
  have hD0 : va_D A ([(h0, .inr (2, [.int (nI 0), .int (nI 0), .ref q_1, .ref q_7, .ref q_9, .null, .null])), (q_1, .inr (6, [.ref a_2, .ref b_3, .ref d_4, .int (nI 1)])), (q_7, .inl (k_8, 8, .inl (fun _ => 0))), (q_9, .inl (k_10, 8, .inr (.inr (.inr (.inr (fun i => if i < 8 then some (r_11 i) else none))))))] ++ va_pl [] (fun _ => .inr (0, []))) := hD
  refine va_mna (X := [(h0, .inr (2, [.int (nI 0), .int (nI 0), .ref q_1, .ref q_7, .ref q_9, .null, .null])), (q_1, .inr (6, [.ref a_2, .ref b_3, .ref d_4, .int (nI 1)])), (q_7, .inl (k_8, 8, .inl (fun _ => 0))), (q_9, .inl (k_10, 8, .inr (.inr (.inr (.inr (fun i => if i < 8 then some (r_11 i) else none))))))]) (L := []) (ty := .int) (N' := 8) (K' := 8) (z := (8, .inl (fun _ => 0))) hx hb hown (hts _ m_74) hN.2.2.2.2.2.2.2.2 (hts _ m_25) (hK.2 0 _ rfl).2 hK hP0 hD0 hS hA (nI_pos (by omega)) (nI_pos (by omega)) (nI_clamp (by omega)) (nI_clamp (by omega)) (by decide) (by decide) (by decide) rfl rfl (Nat.le_of_ble_eq_true rfl) (Nat.le_of_ble_eq_true rfl) (fun _ => arrV_new _ _ _) d_Sig_init_40 (fun q_12 r_14 k_13 H _ _ hK hP hD hS => ?_)
  have hP : va_P (dC, dI) CL [(h0, .inr (2, [.int (nI 0), .int (nI 0), .ref q_1, .ref q_7, .ref q_9, .null, .null])), (q_1, .inr (6, [.ref a_2, .ref b_3, .ref d_4, .int (nI 1)])), (q_7, .inl (k_8, 8, .inl (fun _ => 0))), (q_9, .inl (k_10, 8, .inr (.inr (.inr (.inr (fun i => if i < 8 then some (r_11 i) else none)))))), (q_12, .inl (k_13, 8, .inr (.inr (.inr (.inr (fun i => if i < 8 then some (r_14 i) else none))))))] H := hP.sub [0, 1, 2, 3, 4] rfl
  have hD : va_D A [(h0, .inr (2, [.int (nI 0), .int (nI 0), .ref q_1, .ref q_7, .ref q_9, .null, .null])), (q_1, .inr (6, [.ref a_2, .ref b_3, .ref d_4, .int (nI 1)])), (q_7, .inl (k_8, 8, .inl (fun _ => 0))), (q_9, .inl (k_10, 8, .inr (.inr (.inr (.inr (fun i => if i < 8 then some (r_11 i) else none)))))), (q_12, .inl (k_13, 8, .inr (.inr (.inr (.inr (fun i => if i < 8 then some (r_14 i) else none))))))] := hD.sub [0, 1, 2, 3, 4] (by decide) rfl
  refine va_putF (D := (dC, dI)) (ci := 2) (v := .ref q_12) (ty := (.array (.array .int))) (C := R_Sig) (T := F_Sig) (N := 7) hx hb hts i_Sig t_Sig t_Sig_ok n_Sig hown hK hP hD hS 0 rfl rfl 5 (by decide) (hts _ m_76) (fun _ h9 => h9) rfl hin rfl (by decide +kernel) rfl rfl (Nat.le_of_ble_eq_true rfl) d_Sig_init_44 (fun H locs hP hD hS => ?_)
  have hP : va_P (dC, dI) CL [(h0, .inr (2, [.int (nI 0), .int (nI 0), .ref q_1, .ref q_7, .ref q_9, .ref q_12, .null])), (q_1, .inr (6, [.ref a_2, .ref b_3, .ref d_4, .int (nI 1)])), (q_7, .inl (k_8, 8, .inl (fun _ => 0))), (q_9, .inl (k_10, 8, .inr (.inr (.inr (.inr (fun i => if i < 8 then some (r_11 i) else none)))))), (q_12, .inl (k_13, 8, .inr (.inr (.inr (.inr (fun i => if i < 8 then some (r_14 i) else none))))))] H := hP
  have hD : va_D A [(h0, .inr (2, [.int (nI 0), .int (nI 0), .ref q_1, .ref q_7, .ref q_9, .ref q_12, .null])), (q_1, .inr (6, [.ref a_2, .ref b_3, .ref d_4, .int (nI 1)])), (q_7, .inl (k_8, 8, .inl (fun _ => 0))), (q_9, .inl (k_10, 8, .inr (.inr (.inr (.inr (fun i => if i < 8 then some (r_11 i) else none)))))), (q_12, .inl (k_13, 8, .inr (.inr (.inr (.inr (fun i => if i < 8 then some (r_14 i) else none))))))] := hD
  refine lv_aload_n hx hb d_Sig_init_47 rfl (lv_at hl 0 rfl) ?_
  refine lv_bipush (v := (nI 8)) hx hb d_Sig_init_48 (by decide +kernel) ?_
  refine lv_bipush (v := (nI 8)) hx hb d_Sig_init_50 (by decide +kernel) ?_
  have hP0 : va_P (dC, dI) CL ([(h0, .inr (2, [.int (nI 0), .int (nI 0), .ref q_1, .ref q_7, .ref q_9, .ref q_12, .null])), (q_1, .inr (6, [.ref a_2, .ref b_3, .ref d_4, .int (nI 1)])), (q_7, .inl (k_8, 8, .inl (fun _ => 0))), (q_9, .inl (k_10, 8, .inr (.inr (.inr (.inr (fun i => if i < 8 then some (r_11 i) else none)))))), (q_12, .inl (k_13, 8, .inr (.inr (.inr (.inr (fun i => if i < 8 then some (r_14 i) else none))))))] ++ va_pl [] (fun _ => .inr (0, []))) H := hP
  have hD0 : va_D A ([(h0, .inr (2, [.int (nI 0), .int (nI 0), .ref q_1, .ref q_7, .ref q_9, .ref q_12, .null])), (q_1, .inr (6, [.ref a_2, .ref b_3, .ref d_4, .int (nI 1)])), (q_7, .inl (k_8, 8, .inl (fun _ => 0))), (q_9, .inl (k_10, 8, .inr (.inr (.inr (.inr (fun i => if i < 8 then some (r_11 i) else none)))))), (q_12, .inl (k_13, 8, .inr (.inr (.inr (.inr (fun i => if i < 8 then some (r_14 i) else none))))))] ++ va_pl [] (fun _ => .inr (0, []))) := hD
  refine va_mna (X := [(h0, .inr (2, [.int (nI 0), .int (nI 0), .ref q_1, .ref q_7, .ref q_9, .ref q_12, .null])), (q_1, .inr (6, [.ref a_2, .ref b_3, .ref d_4, .int (nI 1)])), (q_7, .inl (k_8, 8, .inl (fun _ => 0))), (q_9, .inl (k_10, 8, .inr (.inr (.inr (.inr (fun i => if i < 8 then some (r_11 i) else none)))))), (q_12, .inl (k_13, 8, .inr (.inr (.inr (.inr (fun i => if i < 8 then some (r_14 i) else none))))))]) (L := []) (ty := .int) (N' := 8) (K' := 8) (z := (8, .inl (fun _ => 0))) hx hb hown (hts _ m_74) hN.2.2.2.2.2.2.2.2 (hts _ m_25) (hK.2 0 _ rfl).2 hK hP0 hD0 hS hA (nI_pos (by omega)) (nI_pos (by omega)) (nI_clamp (by omega)) (nI_clamp (by omega)) (by decide) (by decide) (by decide) rfl rfl (Nat.le_of_ble_eq_true rfl) (Nat.le_of_ble_eq_true rfl) (fun _ => arrV_new _ _ _) d_Sig_init_52 (fun q_15 r_17 k_16 H _ _ hK hP hD hS => ?_)
  have hP : va_P (dC, dI) CL [(h0, .inr (2, [.int (nI 0), .int (nI 0), .ref q_1, .ref q_7, .ref q_9, .ref q_12, .null])), (q_1, .inr (6, [.ref a_2, .ref b_3, .ref d_4, .int (nI 1)])), (q_7, .inl (k_8, 8, .inl (fun _ => 0))), (q_9, .inl (k_10, 8, .inr (.inr (.inr (.inr (fun i => if i < 8 then some (r_11 i) else none)))))), (q_12, .inl (k_13, 8, .inr (.inr (.inr (.inr (fun i => if i < 8 then some (r_14 i) else none)))))), (q_15, .inl (k_16, 8, .inr (.inr (.inr (.inr (fun i => if i < 8 then some (r_17 i) else none))))))] H := hP.sub [0, 1, 2, 3, 4, 5] rfl
  have hD : va_D A [(h0, .inr (2, [.int (nI 0), .int (nI 0), .ref q_1, .ref q_7, .ref q_9, .ref q_12, .null])), (q_1, .inr (6, [.ref a_2, .ref b_3, .ref d_4, .int (nI 1)])), (q_7, .inl (k_8, 8, .inl (fun _ => 0))), (q_9, .inl (k_10, 8, .inr (.inr (.inr (.inr (fun i => if i < 8 then some (r_11 i) else none)))))), (q_12, .inl (k_13, 8, .inr (.inr (.inr (.inr (fun i => if i < 8 then some (r_14 i) else none)))))), (q_15, .inl (k_16, 8, .inr (.inr (.inr (.inr (fun i => if i < 8 then some (r_17 i) else none))))))] := hD.sub [0, 1, 2, 3, 4, 5] (by decide) rfl
  refine va_putF (D := (dC, dI)) (ci := 2) (v := .ref q_15) (ty := (.array (.array .int))) (C := R_Sig) (T := F_Sig) (N := 7) hx hb hts i_Sig t_Sig t_Sig_ok n_Sig hown hK hP hD hS 0 rfl rfl 6 (by decide) (hts _ m_77) (fun _ h9 => h9) rfl hin rfl (by decide +kernel) rfl rfl (Nat.le_of_ble_eq_true rfl) d_Sig_init_56 (fun H locs hP hD hS => ?_)
  have hP : va_P (dC, dI) CL [(h0, .inr (2, [.int (nI 0), .int (nI 0), .ref q_1, .ref q_7, .ref q_9, .ref q_12, .ref q_15])), (q_1, .inr (6, [.ref a_2, .ref b_3, .ref d_4, .int (nI 1)])), (q_7, .inl (k_8, 8, .inl (fun _ => 0))), (q_9, .inl (k_10, 8, .inr (.inr (.inr (.inr (fun i => if i < 8 then some (r_11 i) else none)))))), (q_12, .inl (k_13, 8, .inr (.inr (.inr (.inr (fun i => if i < 8 then some (r_14 i) else none)))))), (q_15, .inl (k_16, 8, .inr (.inr (.inr (.inr (fun i => if i < 8 then some (r_17 i) else none))))))] H := hP
  have hD : va_D A [(h0, .inr (2, [.int (nI 0), .int (nI 0), .ref q_1, .ref q_7, .ref q_9, .ref q_12, .ref q_15])), (q_1, .inr (6, [.ref a_2, .ref b_3, .ref d_4, .int (nI 1)])), (q_7, .inl (k_8, 8, .inl (fun _ => 0))), (q_9, .inl (k_10, 8, .inr (.inr (.inr (.inr (fun i => if i < 8 then some (r_11 i) else none)))))), (q_12, .inl (k_13, 8, .inr (.inr (.inr (.inr (fun i => if i < 8 then some (r_14 i) else none)))))), (q_15, .inl (k_16, 8, .inr (.inr (.inr (.inr (fun i => if i < 8 then some (r_17 i) else none))))))] := hD
  have hP9 := hP.sub (ws' := [(h0, .inr (2, [.int (nI 0), .int (nI 0), .ref q_1, .ref q_7, .ref q_9, .ref q_12, .ref q_15]))]) [0] rfl
  have hD9 := hD.sub (ws' := [(h0, .inr (2, [.int (nI 0), .int (nI 0), .ref q_1, .ref q_7, .ref q_9, .ref q_12, .ref q_15]))]) [0] (by decide) rfl
  have hK9 := hK.sub (tys' := []) [] rfl
  rw [hQg]
  exact W.vret hx hb hr (fun t ht hW => ⟨⟨(q_1, q_7, q_9, q_12, q_15), rfl, trivial, by rw [ht]; exact hP9, va_K.moved hW.alike hK9, hD9⟩, hS.F ht⟩) hS.2.2 d_Sig_init_59

-- ThresholdBench$Curve.<init>
set_option maxHeartbeats 4000000 in
set_option maxRecDepth 100000 in
theorem c_Cur_init (l : Launch) (dC : Nat → ClassId) (dI : Nat → Nat → Nat) (h0 : Nat) (sz : Nat)  : Met l y_Cur_init (.code y_Cur_init prog_2_method_1_code 2 (none) :: AW) ({ frames := 3, cells := 68, slots := 550, locals := 52 } : Room) (va_Pc [.ref h0] (pw (dC, dI) CL [(h0, .inr (5, [.null, .null, .null, .null, .null, .null, .null, .null, .null, .int (nI 0)]))] [] sz)) (va_Qv (fun u : Nat × Nat × Nat × Nat × Nat × Nat × Nat × Nat × Nat => True) (fun (u : Nat × Nat × Nat × Nat × Nat × Nat × Nat × Nat × Nat) t => qw (dC, dI) CL (va_A [(h0, .inr (5, [.null, .null, .null, .null, .null, .null, .null, .null, .null, .int (nI 0)]))] sz) ((fun u : Nat × Nat × Nat × Nat × Nat × Nat × Nat × Nat × Nat => [(h0, .inr (5, [.ref u.1, .ref u.2.1, .ref u.2.2.1, .ref u.2.2.2.1, .ref u.2.2.2.2.1, .ref u.2.2.2.2.2.1, .ref u.2.2.2.2.2.2.1, .ref u.2.2.2.2.2.2.2.1, .ref u.2.2.2.2.2.2.2.2, .int (nI 0)]))]) u) ((fun u : Nat × Nat × Nat × Nat × Nat × Nat × Nat × Nat × Nat => []) u) t) (va_A [(h0, .inr (5, [.null, .null, .null, .null, .null, .null, .null, .null, .null, .int (nI 0)]))] sz)) 68 550 (va_A [(h0, .inr (5, [.null, .null, .null, .null, .null, .null, .null, .null, .null, .int (nI 0)]))] sz) := by
  refine Met.ofW (cc := prog_2_method_1_code) (maxL := 2) (ret := none) (by decide) rfl ?_
  intro p e s m args below meth c s₁ B hml hv
  obtain ⟨rfl, hsz, hP, hK, hD0, hZ, hN⟩ := hv
  have hx := B.exec
  have hb := B.bytes
  have hr := B.returns
  have hts := kw (atoms_spec (ws := .code y_Cur_init prog_2_method_1_code 2 (none) :: AW) B.pre)
  have hown : s.vm.findClass R_Cur = some m.cls := findClass_of_methodNamed B.named
  have hlocks := B.notSynchronized
  have hin : meth.name = "<init>" := (name_of_methodNamed B.named B.method).1
  subst hsz
  have hD := hD0.self (sz := s.heap.size)
  obtain ⟨Qg, hQg⟩ : ∃ q, q = MQ below (va_Qv (fun u : Nat × Nat × Nat × Nat × Nat × Nat × Nat × Nat × Nat => True) (fun (u : Nat × Nat × Nat × Nat × Nat × Nat × Nat × Nat × Nat) t => qw (dC, dI) CL (va_A [(h0, .inr (5, [.null, .null, .null, .null, .null, .null, .null, .null, .null, .int (nI 0)]))] s.heap.size) ((fun u : Nat × Nat × Nat × Nat × Nat × Nat × Nat × Nat × Nat => [(h0, .inr (5, [.ref u.1, .ref u.2.1, .ref u.2.2.1, .ref u.2.2.2.1, .ref u.2.2.2.2.1, .ref u.2.2.2.2.2.1, .ref u.2.2.2.2.2.2.1, .ref u.2.2.2.2.2.2.2.1, .ref u.2.2.2.2.2.2.2.2, .int (nI 0)]))]) u) ((fun u : Nat × Nat × Nat × Nat × Nat × Nat × Nat × Nat × Nat => []) u) t) (va_A [(h0, .inr (5, [.null, .null, .null, .null, .null, .null, .null, .null, .null, .int (nI 0)]))] s.heap.size)) ([.ref h0] : List Value).toArray s 68 550 (va_A [(h0, .inr (5, [.null, .null, .null, .null, .null, .null, .null, .null, .null, .int (nI 0)]))] s.heap.size) := ⟨_, rfl⟩
  rw [← hQg]
  generalize hAe : va_A [(h0, .inr (5, [.null, .null, .null, .null, .null, .null, .null, .null, .null, .int (nI 0)]))] s.heap.size = A at hD hZ hQg
  have hA : ∀ q : Nat, s.heap.size ≤ q → A q := fun q h => by rw [← hAe]; exact Or.inr h
  have hS : va_S A s.heap s.heap [] := va_S.rf
  have hP : va_P (dC, dI) CL [(h0, .inr (5, [.null, .null, .null, .null, .null, .null, .null, .null, .null, .int (nI 0)]))] s.heap := hP
  have hl := lv_entry ([.ref h0]) (n := 2) (Nat.le_of_ble_eq_true rfl)
  rw [lg_entry_eq]
  generalize (lg_sl ([.ref h0]) ++ List.replicate (2 - (lg_sl ([.ref h0])).length) Slot.unset).toArray = ls at hl ⊢
  have hl : lv_has ls 2 [(0, .ref h0)] := hl
  show W p l e ({ frames := 3, cells := 68, slots := 550, locals := 52 } : Room) s m ([.ref h0] : List Value).toArray below meth c s.heap [] 0 0 Qg (F0 m 0 ls [])
  refine lv_aload_n hx hb d_Cur_init_0 rfl (lv_at hl 0 rfl) ?_
  refine W.objInit hx hb hown (hts _ m_78) (hts _ m_1) (hts _ m_2) rfl (by rw [hml]; exact hl.1) rfl d_Cur_init_1 (Nat.le_of_ble_eq_true rfl) (Nat.le_of_ble_eq_true rfl) ?_
  refine W.eq (g2 := F0 m 4 ls []) rfl ?_
  refine lv_aload_n hx hb d_Cur_init_4 rfl (lv_at hl 0 rfl) ?_
  refine va_new (ci := 4) (fs := [.null, .null, .null, .null, .null, .null, .null, .null]) (C := R_Fie) (T := F_Fie) (N := 8) hx hb hts i_Fie t_Fie t_Fie_ok hown (hts _ m_79) (hts _ m_80) (hts _ m_81) hK hP hD hS hA rfl f_Fie (Nat.le_of_ble_eq_true rfl) (Nat.le_of_ble_eq_true rfl) d_Cur_init_5 (fun q_1 H hP hD hS => ?_)
  have hP : va_P (dC, dI) CL [(h0, .inr (5, [.null, .null, .null, .null, .null, .null, .null, .null, .null, .int (nI 0)])), (q_1, .inr (4, [.null, .null, .null, .null, .null, .null, .null, .null]))] H := hP
  have hD : va_D A [(h0, .inr (5, [.null, .null, .null, .null, .null, .null, .null, .null, .null, .int (nI 0)])), (q_1, .inr (4, [.null, .null, .null, .null, .null, .null, .null, .null]))] := hD
  refine lv_dup hx hb d_Cur_init_8 rfl ?_
  refine k_finv (wr := [(h0, .inr (5, [.null, .null, .null, .null, .null, .null, .null, .null, .null, .int (nI 0)]))]) [1] [0] (k_runI (n := 0) (As := []) (rest := [.ref q_1, .ref h0]) (wc := [(q_1, .inr (4, [.null, .null, .null, .null, .null, .null, .null, .null]))]) ⟨hx, hb, hml, hown, hts⟩ (c_Fie_init l dC dI q_1 _ ) (kg_code m_82) m_81 m_83 m_84 rfl (by decide +kernel) rfl rfl ⟨Nat.le_of_ble_eq_true rfl, Nat.le_of_ble_eq_true rfl⟩ [1] [] hP hD hK hS hA hZ hN (by rfl) (by decide) (by rfl) rfl hl.1 rfl (Nat.le_of_ble_eq_true rfl) d_Cur_init_9 ⟨(Nat.le_of_ble_eq_true rfl), (Nat.le_of_ble_eq_true rfl)⟩) hP hD hK hS hA (by rfl) (by rfl) (by decide) (by decide) (fun u9 H locs hw_11 hP hD hK hS => ?_)
  obtain ⟨a_2, a_3, a_4, a_5, a_6, a_7, a_8, a_9⟩ := u9
  try dsimp only at hw_11
  have hP : va_P (dC, dI) CL [(h0, .inr (5, [.null, .null, .null, .null, .null, .null, .null, .null, .null, .int (nI 0)])), (q_1, .inr (4, [.ref a_2, .ref a_3, .ref a_4, .ref a_5, .ref a_6, .ref a_7, .ref a_8, .ref a_9]))] H := hP
  have hD : va_D A [(h0, .inr (5, [.null, .null, .null, .null, .null, .null, .null, .null, .null, .int (nI 0)])), (q_1, .inr (4, [.ref a_2, .ref a_3, .ref a_4, .ref a_5, .ref a_6, .ref a_7, .ref a_8, .ref a_9]))] := hD
  have hK : va_K (dC, dI) CL [] s := hK
  refine va_putF (D := (dC, dI)) (ci := 5) (v := .ref q_1) (ty := (.object "ThresholdBench$Field")) (C := R_Cur) (T := F_Cur) (N := 10) hx hb hts i_Cur t_Cur t_Cur_ok n_Cur hown hK hP hD hS 0 rfl rfl 0 (by decide) (hts _ m_85) (fun _ h9 => h9) rfl hin rfl (by decide +kernel) rfl rfl (Nat.le_of_ble_eq_true rfl) d_Cur_init_12 (fun H locs hP hD hS => ?_)
  have hP : va_P (dC, dI) CL [(h0, .inr (5, [.ref q_1, .null, .null, .null, .null, .null, .null, .null, .null, .int (nI 0)])), (q_1, .inr (4, [.ref a_2, .ref a_3, .ref a_4, .ref a_5, .ref a_6, .ref a_7, .ref a_8, .ref a_9]))] H := hP
  have hD : va_D A [(h0, .inr (5, [.ref q_1, .null, .null, .null, .null, .null, .null, .null, .null, .int (nI 0)])), (q_1, .inr (4, [.ref a_2, .ref a_3, .ref a_4, .ref a_5, .ref a_6, .ref a_7, .ref a_8, .ref a_9]))] := hD
  refine lv_aload_n hx hb d_Cur_init_15 rfl (lv_at hl 0 rfl) ?_
  refine lv_bipush (v := (nI 10)) hx hb d_Cur_init_16 (by decide +kernel) ?_
  refine va_newa (atype := .long) (ty := .long) (N' := 10) (a0 := (10, .inr (.inl (fun _ => 0)))) hx hb (hts _ m_12) rfl hK hP hD hS hA (fun _ => rfl) (nI_pos (by omega)) (nI_clamp (by omega)) (by decide) (Nat.le_of_ble_eq_true rfl) (Nat.le_of_ble_eq_true rfl) d_Cur_init_18 (fun q_12 k_13 H hK hP hD hS => ?_)
  have hP : va_P (dC, dI) CL [(h0, .inr (5, [.ref q_1, .null, .null, .null, .null, .null, .null, .null, .null, .int (nI 0)])), (q_1, .inr (4, [.ref a_2, .ref a_3, .ref a_4, .ref a_5, .ref a_6, .ref a_7, .ref a_8, .ref a_9])), (q_12, .inl (k_13, 10, .inr (.inl (fun _ => 0))))] H := hP
  have hD : va_D A [(h0, .inr (5, [.ref q_1, .null, .null, .null, .null, .null, .null, .null, .null, .int (nI 0)])), (q_1, .inr (4, [.ref a_2, .ref a_3, .ref a_4, .ref a_5, .ref a_6, .ref a_7, .ref a_8, .ref a_9])), (q_12, .inl (k_13, 10, .inr (.inl (fun _ => 0))))] := hD
  refine va_putF (D := (dC, dI)) (ci := 5) (v := .ref q_12) (ty := (.array .long)) (C := R_Cur) (T := F_Cur) (N := 10) hx hb hts i_Cur t_Cur t_Cur_ok n_Cur hown hK hP hD hS 0 rfl rfl 1 (by decide) (hts _ m_86) (fun _ h9 => h9) rfl hin rfl (by decide +kernel) rfl rfl (Nat.le_of_ble_eq_true rfl) d_Cur_init_20 (fun H locs hP hD hS => ?_)
  have hP : va_P (dC, dI) CL [(h0, .inr (5, [.ref q_1, .ref q_12, .null, .null, .null, .null, .null, .null, .null, .int (nI 0)])), (q_1, .inr (4, [.ref a_2, .ref a_3, .ref a_4, .ref a_5, .ref a_6, .ref a_7, .ref a_8, .ref a_9])), (q_12, .inl (k_13, 10, .inr (.inl (fun _ => 0))))] H := hP
  have hD : va_D A [(h0, .inr (5, [.ref q_1, .ref q_12, .null, .null, .null, .null, .null, .null, .null, .int (nI 0)])), (q_1, .inr (4, [.ref a_2, .ref a_3, .ref a_4, .ref a_5, .ref a_6, .ref a_7, .ref a_8, .ref a_9])), (q_12, .inl (k_13, 10, .inr (.inl (fun _ => 0))))] := hD
  refine lv_aload_n hx hb d_Cur_init_23 rfl (lv_at hl 0 rfl) ?_
  refine lv_bipush (v := (nI 10)) hx hb d_Cur_init_24 (by decide +kernel) ?_
  refine va_newa (atype := .long) (ty := .long) (N' := 10) (a0 := (10, .inr (.inl (fun _ => 0)))) hx hb (hts _ m_12) rfl hK hP hD hS hA (fun _ => rfl) (nI_pos (by omega)) (nI_clamp (by omega)) (by decide) (Nat.le_of_ble_eq_true rfl) (Nat.le_of_ble_eq_true rfl) d_Cur_init_26 (fun q_14 k_15 H hK hP hD hS => ?_)
  have hP : va_P (dC, dI) CL [(h0, .inr (5, [.ref q_1, .ref q_12, .null, .null, .null, .null, .null, .null, .null, .int (nI 0)])), (q_1, .inr (4, [.ref a_2, .ref a_3, .ref a_4, .ref a_5, .ref a_6, .ref a_7, .ref a_8, .ref a_9])), (q_12, .inl (k_13, 10, .inr (.inl (fun _ => 0)))), (q_14, .inl (k_15, 10, .inr (.inl (fun _ => 0))))] H := hP
  have hD : va_D A [(h0, .inr (5, [.ref q_1, .ref q_12, .null, .null, .null, .null, .null, .null, .null, .int (nI 0)])), (q_1, .inr (4, [.ref a_2, .ref a_3, .ref a_4, .ref a_5, .ref a_6, .ref a_7, .ref a_8, .ref a_9])), (q_12, .inl (k_13, 10, .inr (.inl (fun _ => 0)))), (q_14, .inl (k_15, 10, .inr (.inl (fun _ => 0))))] := hD
  refine va_putF (D := (dC, dI)) (ci := 5) (v := .ref q_14) (ty := (.array .long)) (C := R_Cur) (T := F_Cur) (N := 10) hx hb hts i_Cur t_Cur t_Cur_ok n_Cur hown hK hP hD hS 0 rfl rfl 2 (by decide) (hts _ m_87) (fun _ h9 => h9) rfl hin rfl (by decide +kernel) rfl rfl (Nat.le_of_ble_eq_true rfl) d_Cur_init_28 (fun H locs hP hD hS => ?_)
  have hP : va_P (dC, dI) CL [(h0, .inr (5, [.ref q_1, .ref q_12, .ref q_14, .null, .null, .null, .null, .null, .null, .int (nI 0)])), (q_1, .inr (4, [.ref a_2, .ref a_3, .ref a_4, .ref a_5, .ref a_6, .ref a_7, .ref a_8, .ref a_9])), (q_12, .inl (k_13, 10, .inr (.inl (fun _ => 0)))), (q_14, .inl (k_15, 10, .inr (.inl (fun _ => 0))))] H := hP
  have hD : va_D A [(h0, .inr (5, [.ref q_1, .ref q_12, .ref q_14, .null, .null, .null, .null, .null, .null, .int (nI 0)])), (q_1, .inr (4, [.ref a_2, .ref a_3, .ref a_4, .ref a_5, .ref a_6, .ref a_7, .ref a_8, .ref a_9])), (q_12, .inl (k_13, 10, .inr (.inl (fun _ => 0)))), (q_14, .inl (k_15, 10, .inr (.inl (fun _ => 0))))] := hD
  refine lv_aload_n hx hb d_Cur_init_31 rfl (lv_at hl 0 rfl) ?_
  refine lv_bipush (v := (nI 10)) hx hb d_Cur_init_32 (by decide +kernel) ?_
  refine va_newa (atype := .long) (ty := .long) (N' := 10) (a0 := (10, .inr (.inl (fun _ => 0)))) hx hb (hts _ m_12) rfl hK hP hD hS hA (fun _ => rfl) (nI_pos (by omega)) (nI_clamp (by omega)) (by decide) (Nat.le_of_ble_eq_true rfl) (Nat.le_of_ble_eq_true rfl) d_Cur_init_34 (fun q_16 k_17 H hK hP hD hS => ?_)
  have hP : va_P (dC, dI) CL [(h0, .inr (5, [.ref q_1, .ref q_12, .ref q_14, .null, .null, .null, .null, .null, .null, .int (nI 0)])), (q_1, .inr (4, [.ref a_2, .ref a_3, .ref a_4, .ref a_5, .ref a_6, .ref a_7, .ref a_8, .ref a_9])), (q_12, .inl (k_13, 10, .inr (.inl (fun _ => 0)))), (q_14, .inl (k_15, 10, .inr (.inl (fun _ => 0)))), (q_16, .inl (k_17, 10, .inr (.inl (fun _ => 0))))] H := hP
  have hD : va_D A [(h0, .inr (5, [.ref q_1, .ref q_12, .ref q_14, .null, .null, .null, .null, .null, .null, .int (nI 0)])), (q_1, .inr (4, [.ref a_2, .ref a_3, .ref a_4, .ref a_5, .ref a_6, .ref a_7, .ref a_8, .ref a_9])), (q_12, .inl (k_13, 10, .inr (.inl (fun _ => 0)))), (q_14, .inl (k_15, 10, .inr (.inl (fun _ => 0)))), (q_16, .inl (k_17, 10, .inr (.inl (fun _ => 0))))] := hD
  refine va_putF (D := (dC, dI)) (ci := 5) (v := .ref q_16) (ty := (.array .long)) (C := R_Cur) (T := F_Cur) (N := 10) hx hb hts i_Cur t_Cur t_Cur_ok n_Cur hown hK hP hD hS 0 rfl rfl 3 (by decide) (hts _ m_88) (fun _ h9 => h9) rfl hin rfl (by decide +kernel) rfl rfl (Nat.le_of_ble_eq_true rfl) d_Cur_init_36 (fun H locs hP hD hS => ?_)
  have hP : va_P (dC, dI) CL [(h0, .inr (5, [.ref q_1, .ref q_12, .ref q_14, .ref q_16, .null, .null, .null, .null, .null, .int (nI 0)])), (q_1, .inr (4, [.ref a_2, .ref a_3, .ref a_4, .ref a_5, .ref a_6, .ref a_7, .ref a_8, .ref a_9])), (q_12, .inl (k_13, 10, .inr (.inl (fun _ => 0)))), (q_14, .inl (k_15, 10, .inr (.inl (fun _ => 0)))), (q_16, .inl (k_17, 10, .inr (.inl (fun _ => 0))))] H := hP
  have hD : va_D A [(h0, .inr (5, [.ref q_1, .ref q_12, .ref q_14, .ref q_16, .null, .null, .null, .null, .null, .int (nI 0)])), (q_1, .inr (4, [.ref a_2, .ref a_3, .ref a_4, .ref a_5, .ref a_6, .ref a_7, .ref a_8, .ref a_9])), (q_12, .inl (k_13, 10, .inr (.inl (fun _ => 0)))), (q_14, .inl (k_15, 10, .inr (.inl (fun _ => 0)))), (q_16, .inl (k_17, 10, .inr (.inl (fun _ => 0))))] := hD
  refine lv_aload_n hx hb d_Cur_init_39 rfl (lv_at hl 0 rfl) ?_
  refine lv_bipush (v := (nI 10)) hx hb d_Cur_init_40 (by decide +kernel) ?_
  refine va_newa (atype := .long) (ty := .long) (N' := 10) (a0 := (10, .inr (.inl (fun _ => 0)))) hx hb (hts _ m_12) rfl hK hP hD hS hA (fun _ => rfl) (nI_pos (by omega)) (nI_clamp (by omega)) (by decide) (Nat.le_of_ble_eq_true rfl) (Nat.le_of_ble_eq_true rfl) d_Cur_init_42 (fun q_18 k_19 H hK hP hD hS => ?_)
  have hP : va_P (dC, dI) CL [(h0, .inr (5, [.ref q_1, .ref q_12, .ref q_14, .ref q_16, .null, .null, .null, .null, .null, .int (nI 0)])), (q_1, .inr (4, [.ref a_2, .ref a_3, .ref a_4, .ref a_5, .ref a_6, .ref a_7, .ref a_8, .ref a_9])), (q_12, .inl (k_13, 10, .inr (.inl (fun _ => 0)))), (q_14, .inl (k_15, 10, .inr (.inl (fun _ => 0)))), (q_16, .inl (k_17, 10, .inr (.inl (fun _ => 0)))), (q_18, .inl (k_19, 10, .inr (.inl (fun _ => 0))))] H := hP
  have hD : va_D A [(h0, .inr (5, [.ref q_1, .ref q_12, .ref q_14, .ref q_16, .null, .null, .null, .null, .null, .int (nI 0)])), (q_1, .inr (4, [.ref a_2, .ref a_3, .ref a_4, .ref a_5, .ref a_6, .ref a_7, .ref a_8, .ref a_9])), (q_12, .inl (k_13, 10, .inr (.inl (fun _ => 0)))), (q_14, .inl (k_15, 10, .inr (.inl (fun _ => 0)))), (q_16, .inl (k_17, 10, .inr (.inl (fun _ => 0)))), (q_18, .inl (k_19, 10, .inr (.inl (fun _ => 0))))] := hD
  refine va_putF (D := (dC, dI)) (ci := 5) (v := .ref q_18) (ty := (.array .long)) (C := R_Cur) (T := F_Cur) (N := 10) hx hb hts i_Cur t_Cur t_Cur_ok n_Cur hown hK hP hD hS 0 rfl rfl 4 (by decide) (hts _ m_89) (fun _ h9 => h9) rfl hin rfl (by decide +kernel) rfl rfl (Nat.le_of_ble_eq_true rfl) d_Cur_init_44 (fun H locs hP hD hS => ?_)
  have hP : va_P (dC, dI) CL [(h0, .inr (5, [.ref q_1, .ref q_12, .ref q_14, .ref q_16, .ref q_18, .null, .null, .null, .null, .int (nI 0)])), (q_1, .inr (4, [.ref a_2, .ref a_3, .ref a_4, .ref a_5, .ref a_6, .ref a_7, .ref a_8, .ref a_9])), (q_12, .inl (k_13, 10, .inr (.inl (fun _ => 0)))), (q_14, .inl (k_15, 10, .inr (.inl (fun _ => 0)))), (q_16, .inl (k_17, 10, .inr (.inl (fun _ => 0)))), (q_18, .inl (k_19, 10, .inr (.inl (fun _ => 0))))] H := hP
  have hD : va_D A [(h0, .inr (5, [.ref q_1, .ref q_12, .ref q_14, .ref q_16, .ref q_18, .null, .null, .null, .null, .int (nI 0)])), (q_1, .inr (4, [.ref a_2, .ref a_3, .ref a_4, .ref a_5, .ref a_6, .ref a_7, .ref a_8, .ref a_9])), (q_12, .inl (k_13, 10, .inr (.inl (fun _ => 0)))), (q_14, .inl (k_15, 10, .inr (.inl (fun _ => 0)))), (q_16, .inl (k_17, 10, .inr (.inl (fun _ => 0)))), (q_18, .inl (k_19, 10, .inr (.inl (fun _ => 0))))] := hD
  refine lv_aload_n hx hb d_Cur_init_47 rfl (lv_at hl 0 rfl) ?_
  refine lv_bipush (v := (nI 10)) hx hb d_Cur_init_48 (by decide +kernel) ?_
  refine va_newa (atype := .long) (ty := .long) (N' := 10) (a0 := (10, .inr (.inl (fun _ => 0)))) hx hb (hts _ m_12) rfl hK hP hD hS hA (fun _ => rfl) (nI_pos (by omega)) (nI_clamp (by omega)) (by decide) (Nat.le_of_ble_eq_true rfl) (Nat.le_of_ble_eq_true rfl) d_Cur_init_50 (fun q_20 k_21 H hK hP hD hS => ?_)
  have hP : va_P (dC, dI) CL [(h0, .inr (5, [.ref q_1, .ref q_12, .ref q_14, .ref q_16, .ref q_18, .null, .null, .null, .null, .int (nI 0)])), (q_1, .inr (4, [.ref a_2, .ref a_3, .ref a_4, .ref a_5, .ref a_6, .ref a_7, .ref a_8, .ref a_9])), (q_12, .inl (k_13, 10, .inr (.inl (fun _ => 0)))), (q_14, .inl (k_15, 10, .inr (.inl (fun _ => 0)))), (q_16, .inl (k_17, 10, .inr (.inl (fun _ => 0)))), (q_18, .inl (k_19, 10, .inr (.inl (fun _ => 0)))), (q_20, .inl (k_21, 10, .inr (.inl (fun _ => 0))))] H := hP
  have hD : va_D A [(h0, .inr (5, [.ref q_1, .ref q_12, .ref q_14, .ref q_16, .ref q_18, .null, .null, .null, .null, .int (nI 0)])), (q_1, .inr (4, [.ref a_2, .ref a_3, .ref a_4, .ref a_5, .ref a_6, .ref a_7, .ref a_8, .ref a_9])), (q_12, .inl (k_13, 10, .inr (.inl (fun _ => 0)))), (q_14, .inl (k_15, 10, .inr (.inl (fun _ => 0)))), (q_16, .inl (k_17, 10, .inr (.inl (fun _ => 0)))), (q_18, .inl (k_19, 10, .inr (.inl (fun _ => 0)))), (q_20, .inl (k_21, 10, .inr (.inl (fun _ => 0))))] := hD
  refine va_putF (D := (dC, dI)) (ci := 5) (v := .ref q_20) (ty := (.array .long)) (C := R_Cur) (T := F_Cur) (N := 10) hx hb hts i_Cur t_Cur t_Cur_ok n_Cur hown hK hP hD hS 0 rfl rfl 5 (by decide) (hts _ m_90) (fun _ h9 => h9) rfl hin rfl (by decide +kernel) rfl rfl (Nat.le_of_ble_eq_true rfl) d_Cur_init_52 (fun H locs hP hD hS => ?_)
  have hP : va_P (dC, dI) CL [(h0, .inr (5, [.ref q_1, .ref q_12, .ref q_14, .ref q_16, .ref q_18, .ref q_20, .null, .null, .null, .int (nI 0)])), (q_1, .inr (4, [.ref a_2, .ref a_3, .ref a_4, .ref a_5, .ref a_6, .ref a_7, .ref a_8, .ref a_9])), (q_12, .inl (k_13, 10, .inr (.inl (fun _ => 0)))), (q_14, .inl (k_15, 10, .inr (.inl (fun _ => 0)))), (q_16, .inl (k_17, 10, .inr (.inl (fun _ => 0)))), (q_18, .inl (k_19, 10, .inr (.inl (fun _ => 0)))), (q_20, .inl (k_21, 10, .inr (.inl (fun _ => 0))))] H := hP
  have hD : va_D A [(h0, .inr (5, [.ref q_1, .ref q_12, .ref q_14, .ref q_16, .ref q_18, .ref q_20, .null, .null, .null, .int (nI 0)])), (q_1, .inr (4, [.ref a_2, .ref a_3, .ref a_4, .ref a_5, .ref a_6, .ref a_7, .ref a_8, .ref a_9])), (q_12, .inl (k_13, 10, .inr (.inl (fun _ => 0)))), (q_14, .inl (k_15, 10, .inr (.inl (fun _ => 0)))), (q_16, .inl (k_17, 10, .inr (.inl (fun _ => 0)))), (q_18, .inl (k_19, 10, .inr (.inl (fun _ => 0)))), (q_20, .inl (k_21, 10, .inr (.inl (fun _ => 0))))] := hD
  refine lv_aload_n hx hb d_Cur_init_55 rfl (lv_at hl 0 rfl) ?_
  refine lv_bipush (v := (nI 8)) hx hb d_Cur_init_56 (by decide +kernel) ?_
  refine va_newa (atype := .int) (ty := .int) (N' := 8) (a0 := (8, .inl (fun _ => 0))) hx hb (hts _ m_25) rfl hK hP hD hS hA (fun _ => rfl) (nI_pos (by omega)) (nI_clamp (by omega)) (by decide) (Nat.le_of_ble_eq_true rfl) (Nat.le_of_ble_eq_true rfl) d_Cur_init_58 (fun q_22 k_23 H hK hP hD hS => ?_)
  have hP : va_P (dC, dI) CL [(h0, .inr (5, [.ref q_1, .ref q_12, .ref q_14, .ref q_16, .ref q_18, .ref q_20, .null, .null, .null, .int (nI 0)])), (q_1, .inr (4, [.ref a_2, .ref a_3, .ref a_4, .ref a_5, .ref a_6, .ref a_7, .ref a_8, .ref a_9])), (q_12, .inl (k_13, 10, .inr (.inl (fun _ => 0)))), (q_14, .inl (k_15, 10, .inr (.inl (fun _ => 0)))), (q_16, .inl (k_17, 10, .inr (.inl (fun _ => 0)))), (q_18, .inl (k_19, 10, .inr (.inl (fun _ => 0)))), (q_20, .inl (k_21, 10, .inr (.inl (fun _ => 0)))), (q_22, .inl (k_23, 8, .inl (fun _ => 0)))] H := hP
  have hD : va_D A [(h0, .inr (5, [.ref q_1, .ref q_12, .ref q_14, .ref q_16, .ref q_18, .ref q_20, .null, .null, .null, .int (nI 0)])), (q_1, .inr (4, [.ref a_2, .ref a_3, .ref a_4, .ref a_5, .ref a_6, .ref a_7, .ref a_8, .ref a_9])), (q_12, .inl (k_13, 10, .inr (.inl (fun _ => 0)))), (q_14, .inl (k_15, 10, .inr (.inl (fun _ => 0)))), (q_16, .inl (k_17, 10, .inr (.inl (fun _ => 0)))), (q_18, .inl (k_19, 10, .inr (.inl (fun _ => 0)))), (q_20, .inl (k_21, 10, .inr (.inl (fun _ => 0)))), (q_22, .inl (k_23, 8, .inl (fun _ => 0)))] := hD
  refine va_putF (D := (dC, dI)) (ci := 5) (v := .ref q_22) (ty := (.array .int)) (C := R_Cur) (T := F_Cur) (N := 10) hx hb hts i_Cur t_Cur t_Cur_ok n_Cur hown hK hP hD hS 0 rfl rfl 6 (by decide) (hts _ m_91) (fun _ h9 => h9) rfl hin rfl (by decide +kernel) rfl rfl (Nat.le_of_ble_eq_true rfl) d_Cur_init_60 (fun H locs hP hD hS => ?_)
  have hP : va_P (dC, dI) CL [(h0, .inr (5, [.ref q_1, .ref q_12, .ref q_14, .ref q_16, .ref q_18, .ref q_20, .ref q_22, .null, .null, .int (nI 0)])), (q_1, .inr (4, [.ref a_2, .ref a_3, .ref a_4, .ref a_5, .ref a_6, .ref a_7, .ref a_8, .ref a_9])), (q_12, .inl (k_13, 10, .inr (.inl (fun _ => 0)))), (q_14, .inl (k_15, 10, .inr (.inl (fun _ => 0)))), (q_16, .inl (k_17, 10, .inr (.inl (fun _ => 0)))), (q_18, .inl (k_19, 10, .inr (.inl (fun _ => 0)))), (q_20, .inl (k_21, 10, .inr (.inl (fun _ => 0)))), (q_22, .inl (k_23, 8, .inl (fun _ => 0)))] H := hP
  have hD : va_D A [(h0, .inr (5, [.ref q_1, .ref q_12, .ref q_14, .ref q_16, .ref q_18, .ref q_20, .ref q_22, .null, .null, .int (nI 0)])), (q_1, .inr (4, [.ref a_2, .ref a_3, .ref a_4, .ref a_5, .ref a_6, .ref a_7, .ref a_8, .ref a_9])), (q_12, .inl (k_13, 10, .inr (.inl (fun _ => 0)))), (q_14, .inl (k_15, 10, .inr (.inl (fun _ => 0)))), (q_16, .inl (k_17, 10, .inr (.inl (fun _ => 0)))), (q_18, .inl (k_19, 10, .inr (.inl (fun _ => 0)))), (q_20, .inl (k_21, 10, .inr (.inl (fun _ => 0)))), (q_22, .inl (k_23, 8, .inl (fun _ => 0)))] := hD
  refine lv_aload_n hx hb d_Cur_init_63 rfl (lv_at hl 0 rfl) ?_
  refine va_new (ci := 6) (fs := [.null, .null, .null, .int (nI 0)]) (C := R_Poi) (T := F_Poi) (N := 4) hx hb hts i_Poi t_Poi t_Poi_ok hown (hts _ m_92) (hts _ m_19) (hts _ m_20) hK hP hD hS hA rfl f_Poi (Nat.le_of_ble_eq_true rfl) (Nat.le_of_ble_eq_true rfl) d_Cur_init_64 (fun q_24 H hP hD hS => ?_)
  have hP : va_P (dC, dI) CL [(h0, .inr (5, [.ref q_1, .ref q_12, .ref q_14, .ref q_16, .ref q_18, .ref q_20, .ref q_22, .null, .null, .int (nI 0)])), (q_1, .inr (4, [.ref a_2, .ref a_3, .ref a_4, .ref a_5, .ref a_6, .ref a_7, .ref a_8, .ref a_9])), (q_12, .inl (k_13, 10, .inr (.inl (fun _ => 0)))), (q_14, .inl (k_15, 10, .inr (.inl (fun _ => 0)))), (q_16, .inl (k_17, 10, .inr (.inl (fun _ => 0)))), (q_18, .inl (k_19, 10, .inr (.inl (fun _ => 0)))), (q_20, .inl (k_21, 10, .inr (.inl (fun _ => 0)))), (q_22, .inl (k_23, 8, .inl (fun _ => 0))), (q_24, .inr (6, [.null, .null, .null, .int (nI 0)]))] H := hP
  have hD : va_D A [(h0, .inr (5, [.ref q_1, .ref q_12, .ref q_14, .ref q_16, .ref q_18, .ref q_20, .ref q_22, .null, .null, .int (nI 0)])), (q_1, .inr (4, [.ref a_2, .ref a_3, .ref a_4, .ref a_5, .ref a_6, .ref a_7, .ref a_8, .ref a_9])), (q_12, .inl (k_13, 10, .inr (.inl (fun _ => 0)))), (q_14, .inl (k_15, 10, .inr (.inl (fun _ => 0)))), (q_16, .inl (k_17, 10, .inr (.inl (fun _ => 0)))), (q_18, .inl (k_19, 10, .inr (.inl (fun _ => 0)))), (q_20, .inl (k_21, 10, .inr (.inl (fun _ => 0)))), (q_22, .inl (k_23, 8, .inl (fun _ => 0))), (q_24, .inr (6, [.null, .null, .null, .int (nI 0)]))] := hD
  refine lv_dup hx hb d_Cur_init_67 rfl ?_
  refine k_finv (wr := [(h0, .inr (5, [.ref q_1, .ref q_12, .ref q_14, .ref q_16, .ref q_18, .ref q_20, .ref q_22, .null, .null, .int (nI 0)])), (q_1, .inr (4, [.ref a_2, .ref a_3, .ref a_4, .ref a_5, .ref a_6, .ref a_7, .ref a_8, .ref a_9])), (q_12, .inl (k_13, 10, .inr (.inl (fun _ => 0)))), (q_14, .inl (k_15, 10, .inr (.inl (fun _ => 0)))), (q_16, .inl (k_17, 10, .inr (.inl (fun _ => 0)))), (q_18, .inl (k_19, 10, .inr (.inl (fun _ => 0)))), (q_20, .inl (k_21, 10, .inr (.inl (fun _ => 0)))), (q_22, .inl (k_23, 8, .inl (fun _ => 0)))]) [8] [0, 1, 2, 3, 4, 5, 6, 7] (k_runI (n := 0) (As := []) (rest := [.ref q_24, .ref h0]) (wc := [(q_24, .inr (6, [.null, .null, .null, .int (nI 0)]))]) ⟨hx, hb, hml, hown, hts⟩ (c_Poi_init l dC dI q_24 _ ) (kg_code m_21) m_20 m_93 m_23 rfl (by decide +kernel) rfl rfl ⟨Nat.le_of_ble_eq_true rfl, Nat.le_of_ble_eq_true rfl⟩ [8] [] hP hD hK hS hA hZ hN (by rfl) (by decide) (by rfl) rfl hl.1 rfl (Nat.le_of_ble_eq_true rfl) d_Cur_init_68 ⟨(Nat.le_of_ble_eq_true rfl), (Nat.le_of_ble_eq_true rfl)⟩) hP hD hK hS hA (by rfl) (by rfl) (by decide) (by decide) (fun u9 H locs hw_29 hP hD hK hS => ?_)
  obtain ⟨a_25, b_26, d_27⟩ := u9
  try dsimp only at hw_29
  have hP : va_P (dC, dI) CL [(h0, .inr (5, [.ref q_1, .ref q_12, .ref q_14, .ref q_16, .ref q_18, .ref q_20, .ref q_22, .null, .null, .int (nI 0)])), (q_1, .inr (4, [.ref a_2, .ref a_3, .ref a_4, .ref a_5, .ref a_6, .ref a_7, .ref a_8, .ref a_9])), (q_12, .inl (k_13, 10, .inr (.inl (fun _ => 0)))), (q_14, .inl (k_15, 10, .inr (.inl (fun _ => 0)))), (q_16, .inl (k_17, 10, .inr (.inl (fun _ => 0)))), (q_18, .inl (k_19, 10, .inr (.inl (fun _ => 0)))), (q_20, .inl (k_21, 10, .inr (.inl (fun _ => 0)))), (q_22, .inl (k_23, 8, .inl (fun _ => 0))), (q_24, .inr (6, [.ref a_25, .ref b_26, .ref d_27, .int (nI 1)]))] H := hP
  have hD : va_D A [(h0, .inr (5, [.ref q_1, .ref q_12, .ref q_14, .ref q_16, .ref q_18, .ref q_20, .ref q_22, .null, .null, .int (nI 0)])), (q_1, .inr (4, [.ref a_2, .ref a_3, .ref a_4, .ref a_5, .ref a_6, .ref a_7, .ref a_8, .ref a_9])), (q_12, .inl (k_13, 10, .inr (.inl (fun _ => 0)))), (q_14, .inl (k_15, 10, .inr (.inl (fun _ => 0)))), (q_16, .inl (k_17, 10, .inr (.inl (fun _ => 0)))), (q_18, .inl (k_19, 10, .inr (.inl (fun _ => 0)))), (q_20, .inl (k_21, 10, .inr (.inl (fun _ => 0)))), (q_22, .inl (k_23, 8, .inl (fun _ => 0))), (q_24, .inr (6, [.ref a_25, .ref b_26, .ref d_27, .int (nI 1)]))] := hD
  have hK : va_K (dC, dI) CL [(k_13, .long), (k_15, .long), (k_17, .long), (k_19, .long), (k_21, .long), (k_23, .int)] s := hK
  refine va_putF (D := (dC, dI)) (ci := 5) (v := .ref q_24) (ty := (.object "ThresholdBench$Point")) (C := R_Cur) (T := F_Cur) (N := 10) hx hb hts i_Cur t_Cur t_Cur_ok n_Cur hown hK hP hD hS 0 rfl rfl 7 (by decide) (hts _ m_94) (fun _ h9 => h9) rfl hin rfl (by decide +kernel) rfl rfl (Nat.le_of_ble_eq_true rfl) d_Cur_init_71 (fun H locs hP hD hS => ?_)
  have hP : va_P (dC, dI) CL [(h0, .inr (5, [.ref q_1, .ref q_12, .ref q_14, .ref q_16, .ref q_18, .ref q_20, .ref q_22, .ref q_24, .null, .int (nI 0)])), (q_1, .inr (4, [.ref a_2, .ref a_3, .ref a_4, .ref a_5, .ref a_6, .ref a_7, .ref a_8, .ref a_9])), (q_12, .inl (k_13, 10, .inr (.inl (fun _ => 0)))), (q_14, .inl (k_15, 10, .inr (.inl (fun _ => 0)))), (q_16, .inl (k_17, 10, .inr (.inl (fun _ => 0)))), (q_18, .inl (k_19, 10, .inr (.inl (fun _ => 0)))), (q_20, .inl (k_21, 10, .inr (.inl (fun _ => 0)))), (q_22, .inl (k_23, 8, .inl (fun _ => 0))), (q_24, .inr (6, [.ref a_25, .ref b_26, .ref d_27, .int (nI 1)]))] H := hP
  have hD : va_D A [(h0, .inr (5, [.ref q_1, .ref q_12, .ref q_14, .ref q_16, .ref q_18, .ref q_20, .ref q_22, .ref q_24, .null, .int (nI 0)])), (q_1, .inr (4, [.ref a_2, .ref a_3, .ref a_4, .ref a_5, .ref a_6, .ref a_7, .ref a_8, .ref a_9])), (q_12, .inl (k_13, 10, .inr (.inl (fun _ => 0)))), (q_14, .inl (k_15, 10, .inr (.inl (fun _ => 0)))), (q_16, .inl (k_17, 10, .inr (.inl (fun _ => 0)))), (q_18, .inl (k_19, 10, .inr (.inl (fun _ => 0)))), (q_20, .inl (k_21, 10, .inr (.inl (fun _ => 0)))), (q_22, .inl (k_23, 8, .inl (fun _ => 0))), (q_24, .inr (6, [.ref a_25, .ref b_26, .ref d_27, .int (nI 1)]))] := hD
  refine lv_aload_n hx hb d_Cur_init_74 rfl (lv_at hl 0 rfl) ?_
  refine lv_bipush (v := (nI 8)) hx hb d_Cur_init_75 (by decide +kernel) ?_
  refine va_newq (N' := 8) hx hb hown (hts _ m_95) hN.2.2.2.2.2.2.2.1 hK hP hD hS hA (nI_pos (by omega)) (nI_clamp (by omega)) (by decide) (Nat.le_of_ble_eq_true rfl) (Nat.le_of_ble_eq_true rfl) d_Cur_init_77 (fun q_30 k_31 H hK hP hD hS => ?_)
  have hP : va_P (dC, dI) CL [(h0, .inr (5, [.ref q_1, .ref q_12, .ref q_14, .ref q_16, .ref q_18, .ref q_20, .ref q_22, .ref q_24, .null, .int (nI 0)])), (q_1, .inr (4, [.ref a_2, .ref a_3, .ref a_4, .ref a_5, .ref a_6, .ref a_7, .ref a_8, .ref a_9])), (q_12, .inl (k_13, 10, .inr (.inl (fun _ => 0)))), (q_14, .inl (k_15, 10, .inr (.inl (fun _ => 0)))), (q_16, .inl (k_17, 10, .inr (.inl (fun _ => 0)))), (q_18, .inl (k_19, 10, .inr (.inl (fun _ => 0)))), (q_20, .inl (k_21, 10, .inr (.inl (fun _ => 0)))), (q_22, .inl (k_23, 8, .inl (fun _ => 0))), (q_24, .inr (6, [.ref a_25, .ref b_26, .ref d_27, .int (nI 1)])), (q_30, .inl (k_31, 8, .inr (.inr (.inr (.inr (fun _ => none))))))] H := hP
  have hD : va_D A [(h0, .inr (5, [.ref q_1, .ref q_12, .ref q_14, .ref q_16, .ref q_18, .ref q_20, .ref q_22, .ref q_24, .null, .int (nI 0)])), (q_1, .inr (4, [.ref a_2, .ref a_3, .ref a_4, .ref a_5, .ref a_6, .ref a_7, .ref a_8, .ref a_9])), (q_12, .inl (k_13, 10, .inr (.inl (fun _ => 0)))), (q_14, .inl (k_15, 10, .inr (.inl (fun _ => 0)))), (q_16, .inl (k_17, 10, .inr (.inl (fun _ => 0)))), (q_18, .inl (k_19, 10, .inr (.inl (fun _ => 0)))), (q_20, .inl (k_21, 10, .inr (.inl (fun _ => 0)))), (q_22, .inl (k_23, 8, .inl (fun _ => 0))), (q_24, .inr (6, [.ref a_25, .ref b_26, .ref d_27, .int (nI 1)])), (q_30, .inl (k_31, 8, .inr (.inr (.inr (.inr (fun _ => none))))))] := hD
  refine va_putF (D := (dC, dI)) (ci := 5) (v := .ref q_30) (ty := (.array (.object "ThresholdBench$Term"))) (C := R_Cur) (T := F_Cur) (N := 10) hx hb hts i_Cur t_Cur t_Cur_ok n_Cur hown hK hP hD hS 0 rfl rfl 8 (by decide) (hts _ m_96) (fun _ h9 => h9) rfl hin rfl (by decide +kernel) rfl rfl (Nat.le_of_ble_eq_true rfl) d_Cur_init_80 (fun H locs hP hD hS => ?_)
  have hP : va_P (dC, dI) CL [(h0, .inr (5, [.ref q_1, .ref q_12, .ref q_14, .ref q_16, .ref q_18, .ref q_20, .ref q_22, .ref q_24, .ref q_30, .int (nI 0)])), (q_1, .inr (4, [.ref a_2, .ref a_3, .ref a_4, .ref a_5, .ref a_6, .ref a_7, .ref a_8, .ref a_9])), (q_12, .inl (k_13, 10, .inr (.inl (fun _ => 0)))), (q_14, .inl (k_15, 10, .inr (.inl (fun _ => 0)))), (q_16, .inl (k_17, 10, .inr (.inl (fun _ => 0)))), (q_18, .inl (k_19, 10, .inr (.inl (fun _ => 0)))), (q_20, .inl (k_21, 10, .inr (.inl (fun _ => 0)))), (q_22, .inl (k_23, 8, .inl (fun _ => 0))), (q_24, .inr (6, [.ref a_25, .ref b_26, .ref d_27, .int (nI 1)])), (q_30, .inl (k_31, 8, .inr (.inr (.inr (.inr (fun _ => none))))))] H := hP
  have hD : va_D A [(h0, .inr (5, [.ref q_1, .ref q_12, .ref q_14, .ref q_16, .ref q_18, .ref q_20, .ref q_22, .ref q_24, .ref q_30, .int (nI 0)])), (q_1, .inr (4, [.ref a_2, .ref a_3, .ref a_4, .ref a_5, .ref a_6, .ref a_7, .ref a_8, .ref a_9])), (q_12, .inl (k_13, 10, .inr (.inl (fun _ => 0)))), (q_14, .inl (k_15, 10, .inr (.inl (fun _ => 0)))), (q_16, .inl (k_17, 10, .inr (.inl (fun _ => 0)))), (q_18, .inl (k_19, 10, .inr (.inl (fun _ => 0)))), (q_20, .inl (k_21, 10, .inr (.inl (fun _ => 0)))), (q_22, .inl (k_23, 8, .inl (fun _ => 0))), (q_24, .inr (6, [.ref a_25, .ref b_26, .ref d_27, .int (nI 1)])), (q_30, .inl (k_31, 8, .inr (.inr (.inr (.inr (fun _ => none))))))] := hD
  have hP : va_P (dC, dI) CL [(h0, .inr (5, [.ref q_1, .ref q_12, .ref q_14, .ref q_16, .ref q_18, .ref q_20, .ref q_22, .ref q_24, .ref q_30, .int (nI 0)])), (q_30, .inl (k_31, 8, .inr (.inr (.inr (.inr (fun _ => none))))))] H := hP.sub [0, 9] rfl
  have hD : va_D A [(h0, .inr (5, [.ref q_1, .ref q_12, .ref q_14, .ref q_16, .ref q_18, .ref q_20, .ref q_22, .ref q_24, .ref q_30, .int (nI 0)])), (q_30, .inl (k_31, 8, .inr (.inr (.inr (.inr (fun _ => none))))))] := hD.sub [0, 9] (by decide) rfl
  have hK : va_K (dC, dI) CL [(k_31, .object R_Ter)] s := hK.sub [6] rfl
  refine lv_iconst (v := (nI 0)) hx hb d_Cur_init_83 (by decide +kernel) ?_
  refine lv_istore_n (lv' := [(1, .int (nI 0)), (0, .ref h0)]) hx hb d_Cur_init_84 rfl hl (by decide) rfl (fun ls hl => ?_)
  have lb_85 : ∀ (n9 : Nat) (k9 : Nat) (f9 : Nat → Option Nat) (H : Heap) (locs : List Loc) (ls : Array Slot), (k9 ≤ 8) → (8 - k9 < n9) → va_P (dC, dI) CL [(h0, .inr (5, [.ref q_1, .ref q_12, .ref q_14, .ref q_16, .ref q_18, .ref q_20, .ref q_22, .ref q_24, .ref q_30, .int (nI 0)])), (q_30, .inl (k_31, 8, .inr (.inr (.inr (.inr f9)))))] H → va_D A [(h0, .inr (5, [.ref q_1, .ref q_12, .ref q_14, .ref q_16, .ref q_18, .ref q_20, .ref q_22, .ref q_24, .ref q_30, .int (nI 0)])), (q_30, .inl (k_31, 8, .inr (.inr (.inr (.inr f9)))))] → va_S A s.heap H locs → lv_has ls 2 [(0, .ref h0), (1, .int (nI k9))] → W p l e ({ frames := 3, cells := 68, slots := 550, locals := 52 } : Room) s m ([.ref h0] : List Value).toArray below meth c H locs (20 + 6 * k9) (198 + 44 * k9) Qg (F0 m 85 ls []) := by
    intro n9
    induction n9 with
    | zero => intro k9 f9 H locs ls hk9 hm9; exact absurd hm9 (Nat.not_lt_zero _)
    | succ n9 ih85 =>
      intro k9 f9 H locs ls hk9 hm85 hP hD hS hl
      refine lv_iload_n hx hb d_Cur_init_85 rfl (lv_at hl 1 rfl) ?_
      refine lv_bipush (v := (nI 8)) hx hb d_Cur_init_86 (by decide +kernel) ?_
      refine lv_icmp_ge (tgt := 110) hx hb d_Cur_init_88 (by decide) (fun c88 => ?_) (fun c88 => ?_)
      · have c88 : 8 ≤ k9 := (nI_leI (by omega) (by omega)).mp c88
        have hP9 := hP.sub (ws' := [(h0, .inr (5, [.ref q_1, .ref q_12, .ref q_14, .ref q_16, .ref q_18, .ref q_20, .ref q_22, .ref q_24, .ref q_30, .int (nI 0)]))]) [0] rfl
        have hD9 := hD.sub (ws' := [(h0, .inr (5, [.ref q_1, .ref q_12, .ref q_14, .ref q_16, .ref q_18, .ref q_20, .ref q_22, .ref q_24, .ref q_30, .int (nI 0)]))]) [0] (by decide) rfl
        have hK9 := hK.sub (tys' := []) [] rfl
        refine W.widen (k := 68) (n := 550) (by omega) (by omega) ?_
        rw [hQg]
        exact W.vret hx hb hr (fun t ht hW => ⟨⟨(q_1, q_12, q_14, q_16, q_18, q_20, q_22, q_24, q_30), rfl, trivial, by rw [ht]; exact hP9, va_K.moved hW.alike hK9, hD9⟩, hS.F ht⟩) hS.2.2 d_Cur_init_110
      · have c88 : ¬ (8 ≤ k9) := fun h => c88 ((nI_leI (by omega) (by omega)).mpr h)
        refine lv_aload_n hx hb d_Cur_init_91 rfl (lv_at hl 0 rfl) ?_
        refine va_get (D := (dC, dI)) (ci := 5) (v := .ref q_30) (C := R_Cur) (T := F_Cur) (N := 10) hx hb hts i_Cur hown hK hP 0 rfl rfl 8 (by decide) (hts _ m_96) (fun _ h9 => h9) rfl d_Cur_init_92 ?_
        refine lv_iload_n hx hb d_Cur_init_95 rfl (lv_at hl 1 rfl) ?_
        refine va_new (ci := 7) (fs := [.null, .null]) (C := R_Ter) (T := F_Ter) (N := 2) hx hb hts i_Ter t_Ter t_Ter_ok hown (hts _ m_95) (hts _ m_97) (hts _ m_98) hK hP hD hS hA rfl f_Ter (by show _ ≤ 68; omega) (by show _ ≤ 550; omega) d_Cur_init_96 (fun q_32 H hP hD hS => ?_)
        have hP : va_P (dC, dI) CL [(h0, .inr (5, [.ref q_1, .ref q_12, .ref q_14, .ref q_16, .ref q_18, .ref q_20, .ref q_22, .ref q_24, .ref q_30, .int (nI 0)])), (q_30, .inl (k_31, 8, .inr (.inr (.inr (.inr f9))))), (q_32, .inr (7, [.null, .null]))] H := hP
        have hD : va_D A [(h0, .inr (5, [.ref q_1, .ref q_12, .ref q_14, .ref q_16, .ref q_18, .ref q_20, .ref q_22, .ref q_24, .ref q_30, .int (nI 0)])), (q_30, .inl (k_31, 8, .inr (.inr (.inr (.inr f9))))), (q_32, .inr (7, [.null, .null]))] := hD
        refine lv_dup hx hb d_Cur_init_99 rfl ?_
        refine k_finv (wr := [(h0, .inr (5, [.ref q_1, .ref q_12, .ref q_14, .ref q_16, .ref q_18, .ref q_20, .ref q_22, .ref q_24, .ref q_30, .int (nI 0)])), (q_30, .inl (k_31, 8, .inr (.inr (.inr (.inr f9)))))]) [2] [0, 1] (k_runI (n := 0) (As := []) (rest := [.ref q_32, .int (nI k9), .ref q_30]) (wc := [(q_32, .inr (7, [.null, .null]))]) ⟨hx, hb, hml, hown, hts⟩ (c_Ter_init l dC dI q_32 _ ) (kg_code m_99) m_98 m_100 m_101 rfl (by decide +kernel) rfl rfl ⟨Nat.le_of_ble_eq_true rfl, Nat.le_of_ble_eq_true rfl⟩ [2] [] hP hD hK hS hA hZ hN (by rfl) (by decide) (by rfl) rfl hl.1 rfl (Nat.le_of_ble_eq_true rfl) d_Cur_init_100 ⟨(by show _ ≤ 68; omega), (by show _ ≤ 550; omega)⟩) hP hD hK hS hA (by rfl) (by rfl) (by decide) (by decide) (fun u9 H locs hw_36 hP hD hK hS => ?_)
        obtain ⟨a_33, b_34⟩ := u9
        try dsimp only at hw_36
        have hP : va_P (dC, dI) CL [(h0, .inr (5, [.ref q_1, .ref q_12, .ref q_14, .ref q_16, .ref q_18, .ref q_20, .ref q_22, .ref q_24, .ref q_30, .int (nI 0)])), (q_30, .inl (k_31, 8, .inr (.inr (.inr (.inr f9))))), (q_32, .inr (7, [.ref a_33, .ref b_34]))] H := hP
        have hD : va_D A [(h0, .inr (5, [.ref q_1, .ref q_12, .ref q_14, .ref q_16, .ref q_18, .ref q_20, .ref q_22, .ref q_24, .ref q_30, .int (nI 0)])), (q_30, .inl (k_31, 8, .inr (.inr (.inr (.inr f9))))), (q_32, .inr (7, [.ref a_33, .ref b_34]))] := hD
        have hK : va_K (dC, dI) CL [(k_31, .object R_Ter)] s := hK
        refine va_astq hx hb hK hP hD hS 1 0 2 7 rfl rfl rfl rfl (vp_in_nI (by omega) (by omega)) d_Cur_init_103 (fun H locs hP hD hS => ?_)
        have hP : va_P (dC, dI) CL [(h0, .inr (5, [.ref q_1, .ref q_12, .ref q_14, .ref q_16, .ref q_18, .ref q_20, .ref q_22, .ref q_24, .ref q_30, .int (nI 0)])), (q_30, .inl (k_31, 8, .inr (.inr (.inr (.inr (va_up f9 (nI k9).toNatClampNeg (some q_32))))))), (q_32, .inr (7, [.ref a_33, .ref b_34]))] H := hP
        have hD : va_D A [(h0, .inr (5, [.ref q_1, .ref q_12, .ref q_14, .ref q_16, .ref q_18, .ref q_20, .ref q_22, .ref q_24, .ref q_30, .int (nI 0)])), (q_30, .inl (k_31, 8, .inr (.inr (.inr (.inr (va_up f9 (nI k9).toNatClampNeg (some q_32))))))), (q_32, .inr (7, [.ref a_33, .ref b_34]))] := hD
        generalize va_up f9 (nI k9).toNatClampNeg (some q_32) = g_37 at hP hD
        have hP : va_P (dC, dI) CL [(h0, .inr (5, [.ref q_1, .ref q_12, .ref q_14, .ref q_16, .ref q_18, .ref q_20, .ref q_22, .ref q_24, .ref q_30, .int (nI 0)])), (q_30, .inl (k_31, 8, .inr (.inr (.inr (.inr g_37)))))] H := hP.sub [0, 1] rfl
        have hD : va_D A [(h0, .inr (5, [.ref q_1, .ref q_12, .ref q_14, .ref q_16, .ref q_18, .ref q_20, .ref q_22, .ref q_24, .ref q_30, .int (nI 0)])), (q_30, .inl (k_31, 8, .inr (.inr (.inr (.inr g_37)))))] := hD.sub [0, 1] (by decide) rfl
        refine lv_iinc (v := (nI (k9 + 1))) (lv' := [(1, .int (nI (k9 + 1))), (0, .ref h0)]) hx hb d_Cur_init_104 hl (k := 1) rfl (k_inc _) (by decide) rfl (fun ls hl => ?_)
        refine lv_goto (tgt := 85) hx hb d_Cur_init_107 (by decide) ?_
        refine W.cs (cells' := 20 + 6 * (k9 + 1)) (slots' := 198 + 44 * (k9 + 1)) (by omega) (by omega) ?_
        exact ih85  (k9 + 1) g_37 _ _ _ (by omega) (by omega) (hP.sub [0, 1] rfl) (hD.sub [0, 1] (by decide) rfl) hS (lv_sub hl [1, 0] rfl)
  refine W.cs (cells' := 20 + 6 * 0) (slots' := 198 + 44 * 0) (by omega) (by omega) ?_
  exact lb_85 (8 - 0 + 1) 0 (fun _ => none) _ _ _ (Nat.zero_le _) (Nat.lt_succ_self _) (hP.sub [0, 1] rfl) (hD.sub [0, 1] (by decide) rfl) hS (lv_sub hl [1, 0] rfl)
