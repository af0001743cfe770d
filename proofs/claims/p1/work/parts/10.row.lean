-- ThresholdBench$Row.<init>
set_option maxHeartbeats 4000000 in
set_option maxRecDepth 100000 in
theorem c_Row_init (l : Launch) (dC : Nat → ClassId) (dI : Nat → Nat → Nat) (h0 : Nat) (n : Nat) (sz : Nat) (hn : n ≤ 1000) : Met l y_Row_init (.code y_Row_init prog_7_method_1_code 2 (none) :: AW) ({ frames := 1, cells := 1, slots := n, locals := 12 } : Room) (va_Pc [.ref h0, .int (nI n)] (pw (dC, dI) CL [(h0, .inr (1, [.null, .int (nI 0)]))] [] sz)) (va_Qv (fun u : Nat × ClassId => True) (fun (u : Nat × ClassId) t => qw (dC, dI) CL (va_A [(h0, .inr (1, [.null, .int (nI 0)]))] sz) ((fun u : Nat × ClassId => [(h0, .inr (1, [.ref u.1, .int (nI 0)])), (u.1, .inl (u.2, n, .inl (fun _ => 0)))]) u) ((fun u : Nat × ClassId => [(u.2, .byte)]) u) t) (va_A [(h0, .inr (1, [.null, .int (nI 0)]))] sz)) 1 n (va_A [(h0, .inr (1, [.null, .int (nI 0)]))] sz) := by
  refine Met.ofW (cc := prog_7_method_1_code) (maxL := 2) (ret := none) (by decide) rfl ?_
  intro p e s m args below meth c s₁ B hml hv
  obtain ⟨rfl, hsz, hP, hK, hD0, hZ, hN⟩ := hv
  have hx := B.exec
  have hb := B.bytes
  have hr := B.returns
  have hts := kw (atoms_spec (ws := .code y_Row_init prog_7_method_1_code 2 (none) :: AW) B.pre)
  have hown : s.vm.findClass R_Row = some m.cls := findClass_of_methodNamed B.named
  have hlocks := B.notSynchronized
  have hin : meth.name = "<init>" := (name_of_methodNamed B.named B.method).1
  subst hsz
  have hD := hD0.self (sz := s.heap.size)
  obtain ⟨Qg, hQg⟩ : ∃ q, q = MQ below (va_Qv (fun u : Nat × ClassId => True) (fun (u : Nat × ClassId) t => qw (dC, dI) CL (va_A [(h0, .inr (1, [.null, .int (nI 0)]))] s.heap.size) ((fun u : Nat × ClassId => [(h0, .inr (1, [.ref u.1, .int (nI 0)])), (u.1, .inl (u.2, n, .inl (fun _ => 0)))]) u) ((fun u : Nat × ClassId => [(u.2, .byte)]) u) t) (va_A [(h0, .inr (1, [.null, .int (nI 0)]))] s.heap.size)) ([.ref h0, .int (nI n)] : List Value).toArray s 1 n (va_A [(h0, .inr (1, [.null, .int (nI 0)]))] s.heap.size) := ⟨_, rfl⟩
  rw [← hQg]
  generalize hAe : va_A [(h0, .inr (1, [.null, .int (nI 0)]))] s.heap.size = A at hD hZ hQg
  have hA : ∀ q : Nat, s.heap.size ≤ q → A q := fun q h => by rw [← hAe]; exact Or.inr h
  have hS : va_S A s.heap s.heap [] := va_S.rf
  have hP : va_P (dC, dI) CL [(h0, .inr (1, [.null, .int (nI 0)]))] s.heap := hP
  have hl := lv_entry ([.ref h0, .int (nI n)]) (n := 2) (Nat.le_of_ble_eq_true rfl)
  rw [lg_entry_eq]
  generalize (lg_sl ([.ref h0, .int (nI n)]) ++ List.replicate (2 - (lg_sl ([.ref h0, .int (nI n)])).length) Slot.unset).toArray = ls at hl ⊢
  have hl : lv_has ls 2 [(0, .ref h0), (1, .int (nI n))] := hl
  show W p l e ({ frames := 1, cells := 1, slots := n, locals := 12 } : Room) s m ([.ref h0, .int (nI n)] : List Value).toArray below meth c s.heap [] 0 0 Qg (F0 m 0 ls [])
  refine lv_aload_n hx hb d_Row_init_0 rfl (lv_at hl 0 rfl) ?_
  refine W.objInit hx hb hown (hts _ m_0) (hts _ m_1) (hts _ m_2) rfl (by rw [hml]; exact hl.1) rfl d_Row_init_1 (Nat.le_of_ble_eq_true rfl) (Nat.le_of_ble_eq_true rfl) ?_
  refine W.eq (g2 := F0 m 4 ls []) rfl ?_
  refine lv_aload_n hx hb d_Row_init_4 rfl (lv_at hl 0 rfl) ?_
  refine lv_iload_n hx hb d_Row_init_5 rfl (lv_at hl 1 rfl) ?_
  refine va_newa (atype := .byte) (ty := .byte) (N' := n) (a0 := (n, .inl (fun _ => 0))) hx hb (hts _ m_3) rfl hK hP hD hS hA (fun _ => rfl) (nI_pos (by omega)) (nI_clamp (by omega)) (by show _ * _ ≤ _; simp only [componentBytes]; omega) (Nat.le_of_ble_eq_true rfl) (by show _ ≤ n; omega) d_Row_init_6 (fun q_1 k_2 H hK hP hD hS => ?_)
  have hP : va_P (dC, dI) CL [(h0, .inr (1, [.null, .int (nI 0)])), (q_1, .inl (k_2, n, .inl (fun _ => 0)))] H := hP
  have hD : va_D A [(h0, .inr (1, [.null, .int (nI 0)])), (q_1, .inl (k_2, n, .inl (fun _ => 0)))] := hD
  refine va_putF (D := (dC, dI)) (ci := 1) (v := .ref q_1) (ty := (.array .byte)) (C := R_Row) (T := F_Row) (N := 2) hx hb hts i_Row t_Row t_Row_ok n_Row hown hK hP hD hS 0 rfl rfl 0 (by decide) (hts _ m_4) (fun _ h9 => h9) rfl hin rfl (by decide +kernel) rfl rfl (Nat.le_of_ble_eq_true rfl) d_Row_init_8 (fun H locs hP hD hS => ?_)
  have hP : va_P (dC, dI) CL [(h0, .inr (1, [.ref q_1, .int (nI 0)])), (q_1, .inl (k_2, n, .inl (fun _ => 0)))] H := hP
  have hD : va_D A [(h0, .inr (1, [.ref q_1, .int (nI 0)])), (q_1, .inl (k_2, n, .inl (fun _ => 0)))] := hD
  have hP9 := hP.sub (ws' := [(h0, .inr (1, [.ref q_1, .int (nI 0)])), (q_1, .inl (k_2, n, .inl (fun _ => 0)))]) [0, 1] rfl
  have hD9 := hD.sub (ws' := [(h0, .inr (1, [.ref q_1, .int (nI 0)])), (q_1, .inl (k_2, n, .inl (fun _ => 0)))]) [0, 1] (by decide) rfl
  have hK9 := hK.sub (tys' := [(k_2, .byte)]) [0] rfl
  refine W.widen (k := 1) (n := n) (by omega) (by omega) ?_
  rw [hQg]
  exact W.vret hx hb hr (fun t ht hW => ⟨⟨(q_1, k_2), rfl, trivial, by rw [ht]; exact hP9, va_K.moved hW.alike hK9, hD9⟩, hS.F ht⟩) hS.2.2 d_Row_init_11

-- ThresholdBench$Row.clear
set_option maxHeartbeats 4000000 in
set_option maxRecDepth 100000 in
theorem c_Row_clear (l : Launch) (dC : Nat → ClassId) (dI : Nat → Nat → Nat) (h0 : Nat) (h1 : Nat) (ln : Int32) (sz : Nat)  : Met l y_Row_clear (.code y_Row_clear prog_7_method_2_code 1 (none) :: AW) ({ frames := 0, cells := 0, slots := 0, locals := 0 } : Room) (va_Pc [.ref h0] (pw (dC, dI) CL [(h0, .inr (1, [.ref h1, .int ln]))] [] sz)) (va_Qv (fun u : Unit => True) (fun (u : Unit) t => qw (dC, dI) CL (va_A [(h0, .inr (1, [.ref h1, .int ln]))] sz) ((fun _ : Unit => [(h0, .inr (1, [.ref h1, .int (nI 0)]))]) u) ((fun _ : Unit => []) u) t) (va_A [(h0, .inr (1, [.ref h1, .int ln]))] sz)) 0 0 (va_A [(h0, .inr (1, [.ref h1, .int ln]))] sz) := by
  refine Met.ofW (cc := prog_7_method_2_code) (maxL := 1) (ret := none) (by decide) rfl ?_
  intro p e s m args below meth c s₁ B hml hv
  obtain ⟨rfl, hsz, hP, hK, hD0, hZ, hN⟩ := hv
  have hx := B.exec
  have hb := B.bytes
  have hr := B.returns
  have hts := kw (atoms_spec (ws := .code y_Row_clear prog_7_method_2_code 1 (none) :: AW) B.pre)
  have hown : s.vm.findClass R_Row = some m.cls := findClass_of_methodNamed B.named
  have hlocks := B.notSynchronized
  subst hsz
  have hD := hD0.self (sz := s.heap.size)
  obtain ⟨Qg, hQg⟩ : ∃ q, q = MQ below (va_Qv (fun u : Unit => True) (fun (u : Unit) t => qw (dC, dI) CL (va_A [(h0, .inr (1, [.ref h1, .int ln]))] s.heap.size) ((fun _ : Unit => [(h0, .inr (1, [.ref h1, .int (nI 0)]))]) u) ((fun _ : Unit => []) u) t) (va_A [(h0, .inr (1, [.ref h1, .int ln]))] s.heap.size)) ([.ref h0] : List Value).toArray s 0 0 (va_A [(h0, .inr (1, [.ref h1, .int ln]))] s.heap.size) := ⟨_, rfl⟩
  rw [← hQg]
  generalize hAe : va_A [(h0, .inr (1, [.ref h1, .int ln]))] s.heap.size = A at hD hZ hQg
  have hA : ∀ q : Nat, s.heap.size ≤ q → A q := fun q h => by rw [← hAe]; exact Or.inr h
  have hS : va_S A s.heap s.heap [] := va_S.rf
  have hP : va_P (dC, dI) CL [(h0, .inr (1, [.ref h1, .int ln]))] s.heap := hP
  have hl := lv_entry ([.ref h0]) (n := 1) (Nat.le_of_ble_eq_true rfl)
  rw [lg_entry_eq]
  generalize (lg_sl ([.ref h0]) ++ List.replicate (1 - (lg_sl ([.ref h0])).length) Slot.unset).toArray = ls at hl ⊢
  have hl : lv_has ls 1 [(0, .ref h0)] := hl
  show W p l e ({ frames := 0, cells := 0, slots := 0, locals := 0 } : Room) s m ([.ref h0] : List Value).toArray below meth c s.heap [] 0 0 Qg (F0 m 0 ls [])
  refine lv_aload_n hx hb d_Row_clear_0 rfl (lv_at hl 0 rfl) ?_
  refine lv_iconst (v := (nI 0)) hx hb d_Row_clear_1 (by decide +kernel) ?_
  refine va_put (D := (dC, dI)) (ci := 1) (v := .int (nI 0)) (ty := .int) (C := R_Row) (T := F_Row) (N := 2) hx hb hts i_Row t_Row t_Row_ok n_Row hown hK hP hD hS 0 rfl rfl 1 (by decide) (hts _ m_5) (fun _ h9 => h9) rfl (by decide +kernel) rfl rfl (Nat.le_of_ble_eq_true rfl) d_Row_clear_2 (fun H locs hP hD hS => ?_)
  have hP : va_P (dC, dI) CL [(h0, .inr (1, [.ref h1, .int (nI 0)]))] H := hP
  have hD : va_D A [(h0, .inr (1, [.ref h1, .int (nI 0)]))] := hD
  have hP9 := hP.sub (ws' := [(h0, .inr (1, [.ref h1, .int (nI 0)]))]) [0] rfl
  have hD9 := hD.sub (ws' := [(h0, .inr (1, [.ref h1, .int (nI 0)]))]) [0] (by decide) rfl
  have hK9 := hK.sub (tys' := []) [] rfl
  rw [hQg]
  exact W.vret hx hb hr (fun t ht hW => ⟨⟨(), rfl, trivial, by rw [ht]; exact hP9, va_K.moved hW.alike hK9, hD9⟩, hS.F ht⟩) hS.2.2 d_Row_clear_5

-- ThresholdBench$Row.put
set_option maxHeartbeats 4000000 in
set_option maxRecDepth 100000 in
theorem c_Row_put (l : Launch) (dC : Nat → ClassId) (dI : Nat → Nat → Nat) (h0 : Nat) (h1 : Nat) (k : ClassId) (n : Nat) (ln : Nat) (f : Nat → Int32) (w : Int32) (sz : Nat) (hl1 : ln < n) (hn : n ≤ 1000) : Met l y_Row_put (.code y_Row_put prog_7_method_3_code 2 (none) :: AW) ({ frames := 0, cells := 0, slots := 0, locals := 0 } : Room) (va_Pc [.ref h0, .int w] (pw (dC, dI) CL [(h0, .inr (1, [.ref h1, .int (nI ln)])), (h1, .inl (k, n, .inl f))] [(k, .byte)] sz)) (va_Qv (fun u : (Nat → Int32) => True) (fun (u : (Nat → Int32)) t => qw (dC, dI) CL (va_A [(h0, .inr (1, [.ref h1, .int (nI ln)])), (h1, .inl (k, n, .inl f))] sz) ((fun u : (Nat → Int32) => [(h0, .inr (1, [.ref h1, .int (nI (ln + 1))])), (h1, .inl (k, n, .inl u))]) u) ((fun u : (Nat → Int32) => []) u) t) (va_A [(h0, .inr (1, [.ref h1, .int (nI ln)])), (h1, .inl (k, n, .inl f))] sz)) 0 0 (va_A [(h0, .inr (1, [.ref h1, .int (nI ln)])), (h1, .inl (k, n, .inl f))] sz) := by
  refine Met.ofW (cc := prog_7_method_3_code) (maxL := 2) (ret := none) (by decide) rfl ?_
  intro p e s m args below meth c s₁ B hml hv
  obtain ⟨rfl, hsz, hP, hK, hD0, hZ, hN⟩ := hv
  have hx := B.exec
  have hb := B.bytes
  have hr := B.returns
  have hts := kw (atoms_spec (ws := .code y_Row_put prog_7_method_3_code 2 (none) :: AW) B.pre)
  have hown : s.vm.findClass R_Row = some m.cls := findClass_of_methodNamed B.named
  have hlocks := B.notSynchronized
  subst hsz
  have hD := hD0.self (sz := s.heap.size)
  obtain ⟨Qg, hQg⟩ : ∃ q, q = MQ below (va_Qv (fun u : (Nat → Int32) => True) (fun (u : (Nat → Int32)) t => qw (dC, dI) CL (va_A [(h0, .inr (1, [.ref h1, .int (nI ln)])), (h1, .inl (k, n, .inl f))] s.heap.size) ((fun u : (Nat → Int32) => [(h0, .inr (1, [.ref h1, .int (nI (ln + 1))])), (h1, .inl (k, n, .inl u))]) u) ((fun u : (Nat → Int32) => []) u) t) (va_A [(h0, .inr (1, [.ref h1, .int (nI ln)])), (h1, .inl (k, n, .inl f))] s.heap.size)) ([.ref h0, .int w] : List Value).toArray s 0 0 (va_A [(h0, .inr (1, [.ref h1, .int (nI ln)])), (h1, .inl (k, n, .inl f))] s.heap.size) := ⟨_, rfl⟩
  rw [← hQg]
  generalize hAe : va_A [(h0, .inr (1, [.ref h1, .int (nI ln)])), (h1, .inl (k, n, .inl f))] s.heap.size = A at hD hZ hQg
  have hA : ∀ q : Nat, s.heap.size ≤ q → A q := fun q h => by rw [← hAe]; exact Or.inr h
  have hS : va_S A s.heap s.heap [] := va_S.rf
  have hP : va_P (dC, dI) CL [(h0, .inr (1, [.ref h1, .int (nI ln)])), (h1, .inl (k, n, .inl f))] s.heap := hP
  have hl := lv_entry ([.ref h0, .int w]) (n := 2) (Nat.le_of_ble_eq_true rfl)
  rw [lg_entry_eq]
  generalize (lg_sl ([.ref h0, .int w]) ++ List.replicate (2 - (lg_sl ([.ref h0, .int w])).length) Slot.unset).toArray = ls at hl ⊢
  have hl : lv_has ls 2 [(0, .ref h0), (1, .int w)] := hl
  show W p l e ({ frames := 0, cells := 0, slots := 0, locals := 0 } : Room) s m ([.ref h0, .int w] : List Value).toArray below meth c s.heap [] 0 0 Qg (F0 m 0 ls [])
  refine lv_aload_n hx hb d_Row_put_0 rfl (lv_at hl 0 rfl) ?_
  refine va_get (D := (dC, dI)) (ci := 1) (v := .int (nI ln)) (C := R_Row) (T := F_Row) (N := 2) hx hb hts i_Row hown hK hP 0 rfl rfl 1 (by decide) (hts _ m_5) (fun _ h9 => h9) rfl d_Row_put_1 ?_
  refine lv_aload_n hx hb d_Row_put_4 rfl (lv_at hl 0 rfl) ?_
  refine va_get (D := (dC, dI)) (ci := 1) (v := .ref h1) (C := R_Row) (T := F_Row) (N := 2) hx hb hts i_Row hown hK hP 0 rfl rfl 0 (by decide) (hts _ m_4) (fun _ h9 => h9) rfl d_Row_put_5 ?_
  refine va_alen hx hb hK hP 1 0 rfl (ty := .byte) rfl (v := nI n) rfl d_Row_put_8 ?_
  refine lv_icmp_ge (tgt := 33) hx hb d_Row_put_9 (by decide) (fun c9 => absurd c9 (nI_ge hl1 (by omega))) (fun c9 => ?_)
  have c9 : ¬ (n ≤ ln) := fun h => c9 ((nI_leI (by omega) (by omega)).mpr h)
  refine lv_aload_n hx hb d_Row_put_12 rfl (lv_at hl 0 rfl) ?_
  refine va_get (D := (dC, dI)) (ci := 1) (v := .ref h1) (C := R_Row) (T := F_Row) (N := 2) hx hb hts i_Row hown hK hP 0 rfl rfl 0 (by decide) (hts _ m_4) (fun _ h9 => h9) rfl d_Row_put_13 ?_
  refine lv_aload_n hx hb d_Row_put_16 rfl (lv_at hl 0 rfl) ?_
  refine va_get (D := (dC, dI)) (ci := 1) (v := .int (nI ln)) (C := R_Row) (T := F_Row) (N := 2) hx hb hts i_Row hown hK hP 0 rfl rfl 1 (by decide) (hts _ m_5) (fun _ h9 => h9) rfl d_Row_put_17 ?_
  refine lv_iload_n hx hb d_Row_put_20 rfl (lv_at hl 1 rfl) ?_
  refine lv_i2b hx hb d_Row_put_21 rfl ?_
  refine kv_bast hx hb hK hP hD hS 1 0 rfl rfl (by omega) (by omega) d_Row_put_22 (fun H locs g_1 _ hP hD hS => ?_)
  have hP : va_P (dC, dI) CL [(h0, .inr (1, [.ref h1, .int (nI ln)])), (h1, .inl (k, n, .inl g_1))] H := hP
  have hD : va_D A [(h0, .inr (1, [.ref h1, .int (nI ln)])), (h1, .inl (k, n, .inl g_1))] := hD
  refine lv_aload_n hx hb d_Row_put_23 rfl (lv_at hl 0 rfl) ?_
  refine lv_dup hx hb d_Row_put_24 rfl ?_
  refine va_get (D := (dC, dI)) (ci := 1) (v := .int (nI ln)) (C := R_Row) (T := F_Row) (N := 2) hx hb hts i_Row hown hK hP 0 rfl rfl 1 (by decide) (hts _ m_5) (fun _ h9 => h9) rfl d_Row_put_25 ?_
  refine lv_iconst (v := (nI 1)) hx hb d_Row_put_28 (by decide +kernel) ?_
  refine lv_iadd hx hb d_Row_put_29 ?_
  refine ki (v := nI (ln + 1)) (k_add ln 1 rfl) ?_
  refine va_put (D := (dC, dI)) (ci := 1) (v := .int (nI (ln + 1))) (ty := .int) (C := R_Row) (T := F_Row) (N := 2) hx hb hts i_Row t_Row t_Row_ok n_Row hown hK hP hD hS 0 rfl rfl 1 (by decide) (hts _ m_5) (fun _ h9 => h9) rfl (by decide +kernel) rfl rfl (Nat.le_of_ble_eq_true rfl) d_Row_put_30 (fun H locs hP hD hS => ?_)
  have hP : va_P (dC, dI) CL [(h0, .inr (1, [.ref h1, .int (nI (ln + 1))])), (h1, .inl (k, n, .inl g_1))] H := hP
  have hD : va_D A [(h0, .inr (1, [.ref h1, .int (nI (ln + 1))])), (h1, .inl (k, n, .inl g_1))] := hD
  have hP9 := hP.sub (ws' := [(h0, .inr (1, [.ref h1, .int (nI (ln + 1))])), (h1, .inl (k, n, .inl g_1))]) [0, 1] rfl
  have hD9 := hD.sub (ws' := [(h0, .inr (1, [.ref h1, .int (nI (ln + 1))])), (h1, .inl (k, n, .inl g_1))]) [0, 1] (by decide) rfl
  have hK9 := hK.sub (tys' := []) [] rfl
  rw [hQg]
  exact W.vret hx hb hr (fun t ht hW => ⟨⟨(g_1), rfl, trivial, by rw [ht]; exact hP9, va_K.moved hW.alike hK9, hD9⟩, hS.F ht⟩) hS.2.2 d_Row_put_33

-- ThresholdBench$Row.putPart
set_option maxHeartbeats 4000000 in
set_option maxRecDepth 100000 in
theorem c_Row_putPart (l : Launch) (dC : Nat → ClassId) (dI : Nat → Nat → Nat) (h0 : Nat) (h1 : Nat) (a1 : Value) (a2 : Value) (sz : Nat)  : Met l y_Row_putPart (.code y_Row_putPart prog_7_method_5_code 5 (none) :: AW) ({ frames := 0, cells := 0, slots := 0, locals := 0 } : Room) (va_Pc [.ref h0, .ref h1, .int (nI 0), .int (nI 0)] (pw (dC, dI) CL [(h0, .inr (1, [a1, a2]))] [] sz)) (va_Qv (fun u : Unit => True) (fun (u : Unit) t => qw (dC, dI) CL (va_A [(h0, .inr (1, [a1, a2]))] sz) ((fun _ : Unit => [(h0, .inr (1, [a1, a2]))]) u) ((fun _ : Unit => []) u) t) (va_A [(h0, .inr (1, [a1, a2]))] sz)) 0 0 (va_A [(h0, .inr (1, [a1, a2]))] sz) := by
  refine Met.ofW (cc := prog_7_method_5_code) (maxL := 5) (ret := none) (by decide) rfl ?_
  intro p e s m args below meth c s₁ B hml hv
  obtain ⟨rfl, hsz, hP, hK, hD0, hZ, hN⟩ := hv
  have hx := B.exec
  have hb := B.bytes
  have hr := B.returns
  have hts := kw (atoms_spec (ws := .code y_Row_putPart prog_7_method_5_code 5 (none) :: AW) B.pre)
  have hown : s.vm.findClass R_Row = some m.cls := findClass_of_methodNamed B.named
  have hlocks := B.notSynchronized
  subst hsz
  have hD := hD0.self (sz := s.heap.size)
  obtain ⟨Qg, hQg⟩ : ∃ q, q = MQ below (va_Qv (fun u : Unit => True) (fun (u : Unit) t => qw (dC, dI) CL (va_A [(h0, .inr (1, [a1, a2]))] s.heap.size) ((fun _ : Unit => [(h0, .inr (1, [a1, a2]))]) u) ((fun _ : Unit => []) u) t) (va_A [(h0, .inr (1, [a1, a2]))] s.heap.size)) ([.ref h0, .ref h1, .int (nI 0), .int (nI 0)] : List Value).toArray s 0 0 (va_A [(h0, .inr (1, [a1, a2]))] s.heap.size) := ⟨_, rfl⟩
  rw [← hQg]
  generalize hAe : va_A [(h0, .inr (1, [a1, a2]))] s.heap.size = A at hD hZ hQg
  have hA : ∀ q : Nat, s.heap.size ≤ q → A q := fun q h => by rw [← hAe]; exact Or.inr h
  have hS : va_S A s.heap s.heap [] := va_S.rf
  have hP : va_P (dC, dI) CL [(h0, .inr (1, [a1, a2]))] s.heap := hP
  have hl := lv_entry ([.ref h0, .ref h1, .int (nI 0), .int (nI 0)]) (n := 5) (Nat.le_of_ble_eq_true rfl)
  rw [lg_entry_eq]
  generalize (lg_sl ([.ref h0, .ref h1, .int (nI 0), .int (nI 0)]) ++ List.replicate (5 - (lg_sl ([.ref h0, .ref h1, .int (nI 0), .int (nI 0)])).length) Slot.unset).toArray = ls at hl ⊢
  have hl : lv_has ls 5 [(0, .ref h0), (1, .ref h1), (2, .int (nI 0)), (3, .int (nI 0))] := hl
  show W p l e ({ frames := 0, cells := 0, slots := 0, locals := 0 } : Room) s m ([.ref h0, .ref h1, .int (nI 0), .int (nI 0)] : List Value).toArray below meth c s.heap [] 0 0 Qg (F0 m 0 ls [])
  refine lv_iload_n hx hb d_Row_putPart_0 rfl (lv_at hl 2 rfl) ?_
  refine lv_istore (lv' := [(4, .int (nI 0)), (0, .ref h0), (1, .ref h1), (2, .int (nI 0)), (3, .int (nI 0))]) hx hb d_Row_putPart_1 hl (by decide) rfl (fun ls hl => ?_)
  refine lv_iload hx hb d_Row_putPart_3 (lv_at hl 0 rfl) ?_
  refine lv_iload_n hx hb d_Row_putPart_5 rfl (lv_at hl 3 rfl) ?_
  refine lv_iload_n hx hb d_Row_putPart_6 rfl (lv_at hl 4 rfl) ?_
  refine lv_iadd hx hb d_Row_putPart_7 ?_
  refine ki (v := nI 0) (k_add 0 0 rfl) ?_
  refine lv_icmp_ge (tgt := 37) hx hb d_Row_putPart_8 (by decide) (fun c8 => ?_) (fun c8 => absurd (by decide) c8)
  have hP9 := hP.sub (ws' := [(h0, .inr (1, [a1, a2]))]) [0] rfl
  have hD9 := hD.sub (ws' := [(h0, .inr (1, [a1, a2]))]) [0] (by decide) rfl
  have hK9 := hK.sub (tys' := []) [] rfl
  rw [hQg]
  exact W.vret hx hb hr (fun t ht hW => ⟨⟨(), rfl, trivial, by rw [ht]; exact hP9, va_K.moved hW.alike hK9, hD9⟩, hS.F ht⟩) hS.2.2 d_Row_putPart_37

-- ThresholdBench$Row.putRow
set_option maxHeartbeats 4000000 in
set_option maxRecDepth 100000 in
theorem c_Row_putRow (l : Launch) (dC : Nat → ClassId) (dI : Nat → Nat → Nat) (h0 : Nat) (h1 : Nat) (a1 : Value) (a2 : Value) (b1 : Value) (sz : Nat)  : Met l y_Row_putRow (.code y_Row_putRow prog_7_method_4_code 2 (none) :: AW) ({ frames := 1, cells := 0, slots := 0, locals := 24 } : Room) (va_Pc [.ref h0, .ref h1] (pw (dC, dI) CL [(h0, .inr (1, [a1, a2])), (h1, .inr (1, [b1, .int (nI 0)]))] [] sz)) (va_Qv (fun u : Unit => True) (fun (u : Unit) t => qw (dC, dI) CL (va_A [(h0, .inr (1, [a1, a2])), (h1, .inr (1, [b1, .int (nI 0)]))] sz) ((fun _ : Unit => [(h0, .inr (1, [a1, a2])), (h1, .inr (1, [b1, .int (nI 0)]))]) u) ((fun _ : Unit => []) u) t) (va_A [(h0, .inr (1, [a1, a2])), (h1, .inr (1, [b1, .int (nI 0)]))] sz)) 0 0 (va_A [(h0, .inr (1, [a1, a2])), (h1, .inr (1, [b1, .int (nI 0)]))] sz) := by
  refine Met.ofW (cc := prog_7_method_4_code) (maxL := 2) (ret := none) (by decide) rfl ?_
  intro p e s m args below meth c s₁ B hml hv
  obtain ⟨rfl, hsz, hP, hK, hD0, hZ, hN⟩ := hv
  have hx := B.exec
  have hb := B.bytes
  have hr := B.returns
  have hts := kw (atoms_spec (ws := .code y_Row_putRow prog_7_method_4_code 2 (none) :: AW) B.pre)
  have hown : s.vm.findClass R_Row = some m.cls := findClass_of_methodNamed B.named
  have hlocks := B.notSynchronized
  subst hsz
  have hD := hD0.self (sz := s.heap.size)
  obtain ⟨Qg, hQg⟩ : ∃ q, q = MQ below (va_Qv (fun u : Unit => True) (fun (u : Unit) t => qw (dC, dI) CL (va_A [(h0, .inr (1, [a1, a2])), (h1, .inr (1, [b1, .int (nI 0)]))] s.heap.size) ((fun _ : Unit => [(h0, .inr (1, [a1, a2])), (h1, .inr (1, [b1, .int (nI 0)]))]) u) ((fun _ : Unit => []) u) t) (va_A [(h0, .inr (1, [a1, a2])), (h1, .inr (1, [b1, .int (nI 0)]))] s.heap.size)) ([.ref h0, .ref h1] : List Value).toArray s 0 0 (va_A [(h0, .inr (1, [a1, a2])), (h1, .inr (1, [b1, .int (nI 0)]))] s.heap.size) := ⟨_, rfl⟩
  rw [← hQg]
  generalize hAe : va_A [(h0, .inr (1, [a1, a2])), (h1, .inr (1, [b1, .int (nI 0)]))] s.heap.size = A at hD hZ hQg
  have hA : ∀ q : Nat, s.heap.size ≤ q → A q := fun q h => by rw [← hAe]; exact Or.inr h
  have hS : va_S A s.heap s.heap [] := va_S.rf
  have hP : va_P (dC, dI) CL [(h0, .inr (1, [a1, a2])), (h1, .inr (1, [b1, .int (nI 0)]))] s.heap := hP
  have hl := lv_entry ([.ref h0, .ref h1]) (n := 2) (Nat.le_of_ble_eq_true rfl)
  rw [lg_entry_eq]
  generalize (lg_sl ([.ref h0, .ref h1]) ++ List.replicate (2 - (lg_sl ([.ref h0, .ref h1])).length) Slot.unset).toArray = ls at hl ⊢
  have hl : lv_has ls 2 [(0, .ref h0), (1, .ref h1)] := hl
  show W p l e ({ frames := 1, cells := 0, slots := 0, locals := 24 } : Room) s m ([.ref h0, .ref h1] : List Value).toArray below meth c s.heap [] 0 0 Qg (F0 m 0 ls [])
  refine lv_aload_n hx hb d_Row_putRow_0 rfl (lv_at hl 0 rfl) ?_
  refine lv_aload_n hx hb d_Row_putRow_1 rfl (lv_at hl 1 rfl) ?_
  refine lv_iconst (v := (nI 0)) hx hb d_Row_putRow_2 (by decide +kernel) ?_
  refine lv_aload_n hx hb d_Row_putRow_3 rfl (lv_at hl 1 rfl) ?_
  refine va_get (D := (dC, dI)) (ci := 1) (v := .int (nI 0)) (C := R_Row) (T := F_Row) (N := 2) hx hb hts i_Row hown hK hP 1 rfl rfl 1 (by decide) (hts _ m_5) (fun _ h9 => h9) rfl d_Row_putRow_4 ?_
  refine k_finv (wr := [(h1, .inr (1, [b1, .int (nI 0)]))]) [0] [1] (k_runV (n := 3) (As := [.ref h1, .int (nI 0), .int (nI 0)]) (rest := []) (wc := [(h0, .inr (1, [a1, a2]))]) ⟨hx, hb, hml, hown, hts⟩ (c_Row_putPart l dC dI h0 h1 a1 a2 _ ) (kg_V m_7 m_8 m_9 m_10 (kg_code m_6)) (by decide +kernel) rfl rfl ⟨Nat.le_of_ble_eq_true rfl, Nat.le_of_ble_eq_true rfl⟩ [0] [] hP hD hK hS hA hZ hN (by rfl) (by decide) (by rfl) rfl rfl rfl rfl hl.1 rfl (Nat.le_of_ble_eq_true rfl) d_Row_putRow_7 ⟨(Nat.le_of_ble_eq_true rfl), (Nat.le_of_ble_eq_true rfl)⟩) hP hD hK hS hA (by rfl) (by rfl) (by decide) (by decide) (fun u9 H locs hw_2 hP hD hK hS => ?_)
  try dsimp only at hw_2
  have hP : va_P (dC, dI) CL [(h1, .inr (1, [b1, .int (nI 0)])), (h0, .inr (1, [a1, a2]))] H := hP
  have hD : va_D A [(h1, .inr (1, [b1, .int (nI 0)])), (h0, .inr (1, [a1, a2]))] := hD
  have hK : va_K (dC, dI) CL [] s := hK
  have hP9 := hP.sub (ws' := [(h0, .inr (1, [a1, a2])), (h1, .inr (1, [b1, .int (nI 0)]))]) [1, 0] rfl
  have hD9 := hD.sub (ws' := [(h0, .inr (1, [a1, a2])), (h1, .inr (1, [b1, .int (nI 0)]))]) [1, 0] (by decide) rfl
  have hK9 := hK.sub (tys' := []) [] rfl
  rw [hQg]
  exact W.vret hx hb hr (fun t ht hW => ⟨⟨(), rfl, trivial, by rw [ht]; exact hP9, va_K.moved hW.alike hK9, hD9⟩, hS.F ht⟩) hS.2.2 d_Row_putRow_10
