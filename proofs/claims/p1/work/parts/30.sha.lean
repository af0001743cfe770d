-- java/util/Arrays.fill
set_option maxHeartbeats 4000000 in
set_option maxRecDepth 100000 in
theorem c_Arr_fill (l : Launch) (dC : Nat → ClassId) (dI : Nat → Nat → Nat) (b : Nat) (k : ClassId) (n : Nat) (f : Nat → Int32) (x : Int32) (sz : Nat) (hn : n ≤ 1000) : Met l y_Arr_fill (.code y_Arr_fill prog_26_method_103_code 4 (none) :: AW) ({ frames := 0, cells := 0, slots := 0, locals := 0 } : Room) (va_Pc [.ref b, .int x] (pw (dC, dI) CL [(b, .inl (k, n, .inl f))] [(k, .int)] sz)) (va_Qv (fun u : (Nat → Int32) => True) (fun (u : (Nat → Int32)) t => qw (dC, dI) CL (va_A [(b, .inl (k, n, .inl f))] sz) ((fun u : (Nat → Int32) => [(b, .inl (k, n, .inl u))]) u) ((fun u : (Nat → Int32) => []) u) t) (va_A [(b, .inl (k, n, .inl f))] sz)) 0 0 (va_A [(b, .inl (k, n, .inl f))] sz) := by
  refine Met.ofW (cc := prog_26_method_103_code) (maxL := 4) (ret := none) (by decide) rfl ?_
  intro p e s m args below meth c s₁ B hml hv
  obtain ⟨rfl, hsz, hP, hK, hD0, hZ, hN⟩ := hv
  have hx := B.exec
  have hb := B.bytes
  have hr := B.returns
  have hts := kw (atoms_spec (ws := .code y_Arr_fill prog_26_method_103_code 4 (none) :: AW) B.pre)
  have hown : s.vm.findClass R_Arr = some m.cls := findClass_of_methodNamed B.named
  have hlocks := B.notSynchronized
  subst hsz
  have hD := hD0.self (sz := s.heap.size)
  obtain ⟨Qg, hQg⟩ : ∃ q, q = MQ below (va_Qv (fun u : (Nat → Int32) => True) (fun (u : (Nat → Int32)) t => qw (dC, dI) CL (va_A [(b, .inl (k, n, .inl f))] s.heap.size) ((fun u : (Nat → Int32) => [(b, .inl (k, n, .inl u))]) u) ((fun u : (Nat → Int32) => []) u) t) (va_A [(b, .inl (k, n, .inl f))] s.heap.size)) ([.ref b, .int x] : List Value).toArray s 0 0 (va_A [(b, .inl (k, n, .inl f))] s.heap.size) := ⟨_, rfl⟩
  rw [← hQg]
  generalize hAe : va_A [(b, .inl (k, n, .inl f))] s.heap.size = A at hD hZ hQg
  have hA : ∀ q : Nat, s.heap.size ≤ q → A q := fun q h => by rw [← hAe]; exact Or.inr h
  have hS : va_S A s.heap s.heap [] := va_S.rf
  have hP : va_P (dC, dI) CL [(b, .inl (k, n, .inl f))] s.heap := hP
  have hl := lv_entry ([.ref b, .int x]) (n := 4) (Nat.le_of_ble_eq_true rfl)
  rw [lg_entry_eq]
  generalize (lg_sl ([.ref b, .int x]) ++ List.replicate (4 - (lg_sl ([.ref b, .int x])).length) Slot.unset).toArray = ls at hl ⊢
  have hl : lv_has ls 4 [(0, .ref b), (1, .int x)] := hl
  show W p l e ({ frames := 0, cells := 0, slots := 0, locals := 0 } : Room) s m ([.ref b, .int x] : List Value).toArray below meth c s.heap [] 0 0 Qg (F0 m 0 ls [])
  refine lv_iconst (v := (nI 0)) hx hb d_Arr_fill_0 (by decide +kernel) ?_
  refine lv_istore_n (lv' := [(2, .int (nI 0)), (0, .ref b), (1, .int x)]) hx hb d_Arr_fill_1 rfl hl (by decide) rfl (fun ls hl => ?_)
  refine lv_aload_n hx hb d_Arr_fill_2 rfl (lv_at hl 1 rfl) ?_
  refine va_alen hx hb hK hP 0 0 rfl (ty := .int) rfl (v := nI n) rfl d_Arr_fill_3 ?_
  refine lv_istore_n (lv' := [(3, .int (nI n)), (2, .int (nI 0)), (0, .ref b), (1, .int x)]) hx hb d_Arr_fill_4 rfl hl (by decide) rfl (fun ls hl => ?_)
  have lb_5 : ∀ (n9 : Nat) (i9 : Nat) (f9 : Nat → Int32) (H : Heap) (locs : List Loc) (ls : Array Slot), (i9 ≤ n) → (n - i9 < n9) → va_P (dC, dI) CL [(b, .inl (k, n, .inl f9))] H → va_D A [(b, .inl (k, n, .inl f9))] → va_S A s.heap H locs → lv_has ls 4 [(0, .ref b), (1, .int x), (2, .int (nI i9)), (3, .int (nI n))] → W p l e ({ frames := 0, cells := 0, slots := 0, locals := 0 } : Room) s m ([.ref b, .int x] : List Value).toArray below meth c H locs 0 0 Qg (F0 m 5 ls []) := by
    intro n9
    induction n9 with
    | zero => intro i9 f9 H locs ls hi9 hm9; exact absurd hm9 (Nat.not_lt_zero _)
    | succ n9 ih5 =>
      intro i9 f9 H locs ls hi9 hm5 hP hD hS hl
      refine lv_iload_n hx hb d_Arr_fill_5 rfl (lv_at hl 2 rfl) ?_
      refine lv_iload_n hx hb d_Arr_fill_6 rfl (lv_at hl 3 rfl) ?_
      refine lv_icmp_ge (tgt := 20) hx hb d_Arr_fill_7 (by decide) (fun c7 => ?_) (fun c7 => ?_)
      · have c7 : n ≤ i9 := (nI_leI (by omega) (by omega)).mp c7
        have hP9 := hP.sub (ws' := [(b, .inl (k, n, .inl f9))]) [0] rfl
        have hD9 := hD.sub (ws' := [(b, .inl (k, n, .inl f9))]) [0] (by decide) rfl
        have hK9 := hK.sub (tys' := []) [] rfl
        rw [hQg]
        exact W.vret hx hb hr (fun t ht hW => ⟨⟨(f9), rfl, trivial, by rw [ht]; exact hP9, va_K.moved hW.alike hK9, hD9⟩, hS.F ht⟩) hS.2.2 d_Arr_fill_20
      · have c7 : ¬ (n ≤ i9) := fun h => c7 ((nI_leI (by omega) (by omega)).mpr h)
        refine lv_aload_n hx hb d_Arr_fill_10 rfl (lv_at hl 0 rfl) ?_
        refine lv_iload_n hx hb d_Arr_fill_11 rfl (lv_at hl 2 rfl) ?_
        refine lv_iload_n hx hb d_Arr_fill_12 rfl (lv_at hl 1 rfl) ?_
        refine kv_iast hx hb hK hP hD hS 0 0 rfl rfl (by omega) (by omega) d_Arr_fill_13 (fun H locs g_1 _ hP hD hS => ?_)
        have hP : va_P (dC, dI) CL [(b, .inl (k, n, .inl g_1))] H := hP
        have hD : va_D A [(b, .inl (k, n, .inl g_1))] := hD
        refine lv_iinc (v := (nI (i9 + 1))) (lv' := [(2, .int (nI (i9 + 1))), (0, .ref b), (1, .int x), (3, .int (nI n))]) hx hb d_Arr_fill_14 hl (k := 2) rfl (k_inc _) (by decide) rfl (fun ls hl => ?_)
        refine lv_goto (tgt := 5) hx hb d_Arr_fill_17 (by decide) ?_
        exact ih5  (i9 + 1) g_1 _ _ _ (by omega) (by omega) (hP.sub [0] rfl) (hD.sub [0] (by decide) rfl) hS (lv_sub hl [1, 2, 0, 3] rfl)
  exact lb_5 (n - 0 + 1) 0 f _ _ _ (Nat.zero_le _) (Nat.lt_succ_self _) (hP.sub [0] rfl) (hD.sub [0] (by decide) rfl) hS (lv_sub hl [2, 3, 1, 0] rfl)

-- ThresholdBench$Sha.addToState
set_option maxHeartbeats 4000000 in
set_option maxRecDepth 100000 in
theorem c_Sha_add (l : Launch) (dC : Nat → ClassId) (dI : Nat → Nat → Nat) (s0 : Nat) (a : Nat) (ka : ClassId) (f : Nat → Int32) (v1 : Value) (v2 : Value) (p1 : Int32) (p2 : Int32) (p3 : Int32) (p4 : Int32) (fr : Nat) (sz : Nat) (hfr : fr + 3 < 8) : Met l y_Sha_addToState (.code y_Sha_addToState prog_9_method_9_code 6 (none) :: AW) ({ frames := 0, cells := 0, slots := 0, locals := 0 } : Room) (va_Pc [.ref s0, .int p1, .int p2, .int p3, .int p4, .int (nI fr)] (pw (dC, dI) CL [(s0, .inr (10, [.ref a, v1, v2])), (a, .inl (ka, 8, .inl f))] [(ka, .int)] sz)) (va_Qv (fun u : (Nat → Int32) => True) (fun (u : (Nat → Int32)) t => qw (dC, dI) CL (va_A [(s0, .inr (10, [.ref a, v1, v2])), (a, .inl (ka, 8, .inl f))] sz) ((fun u : (Nat → Int32) => [(s0, .inr (10, [.ref a, v1, v2])), (a, .inl (ka, 8, .inl u))]) u) ((fun u : (Nat → Int32) => []) u) t) (va_A [(s0, .inr (10, [.ref a, v1, v2])), (a, .inl (ka, 8, .inl f))] sz)) 0 0 (va_A [(s0, .inr (10, [.ref a, v1, v2])), (a, .inl (ka, 8, .inl f))] sz) := by
  refine Met.ofW (cc := prog_9_method_9_code) (maxL := 6) (ret := none) (by decide) rfl ?_
  intro p e s m args below meth c s₁ B hml hv
  obtain ⟨rfl, hsz, hP, hK, hD0, hZ, hN⟩ := hv
  have hx := B.exec
  have hb := B.bytes
  have hr := B.returns
  have hts := kw (atoms_spec (ws := .code y_Sha_addToState prog_9_method_9_code 6 (none) :: AW) B.pre)
  have hown : s.vm.findClass R_Sha = some m.cls := findClass_of_methodNamed B.named
  have hlocks := B.notSynchronized
  subst hsz
  have hD := hD0.self (sz := s.heap.size)
  obtain ⟨Qg, hQg⟩ : ∃ q, q = MQ below (va_Qv (fun u : (Nat → Int32) => True) (fun (u : (Nat → Int32)) t => qw (dC, dI) CL (va_A [(s0, .inr (10, [.ref a, v1, v2])), (a, .inl (ka, 8, .inl f))] s.heap.size) ((fun u : (Nat → Int32) => [(s0, .inr (10, [.ref a, v1, v2])), (a, .inl (ka, 8, .inl u))]) u) ((fun u : (Nat → Int32) => []) u) t) (va_A [(s0, .inr (10, [.ref a, v1, v2])), (a, .inl (ka, 8, .inl f))] s.heap.size)) ([.ref s0, .int p1, .int p2, .int p3, .int p4, .int (nI fr)] : List Value).toArray s 0 0 (va_A [(s0, .inr (10, [.ref a, v1, v2])), (a, .inl (ka, 8, .inl f))] s.heap.size) := ⟨_, rfl⟩
  rw [← hQg]
  generalize hAe : va_A [(s0, .inr (10, [.ref a, v1, v2])), (a, .inl (ka, 8, .inl f))] s.heap.size = A at hD hZ hQg
  have hA : ∀ q : Nat, s.heap.size ≤ q → A q := fun q h => by rw [← hAe]; exact Or.inr h
  have hS : va_S A s.heap s.heap [] := va_S.rf
  have hP : va_P (dC, dI) CL [(s0, .inr (10, [.ref a, v1, v2])), (a, .inl (ka, 8, .inl f))] s.heap := hP
  have hl := lv_entry ([.ref s0, .int p1, .int p2, .int p3, .int p4, .int (nI fr)]) (n := 6) (Nat.le_of_ble_eq_true rfl)
  rw [lg_entry_eq]
  generalize (lg_sl ([.ref s0, .int p1, .int p2, .int p3, .int p4, .int (nI fr)]) ++ List.replicate (6 - (lg_sl ([.ref s0, .int p1, .int p2, .int p3, .int p4, .int (nI fr)])).length) Slot.unset).toArray = ls at hl ⊢
  have hl : lv_has ls 6 [(0, .ref s0), (1, .int p1), (2, .int p2), (3, .int p3), (4, .int p4), (5, .int (nI fr))] := hl
  show W p l e ({ frames := 0, cells := 0, slots := 0, locals := 0 } : Room) s m ([.ref s0, .int p1, .int p2, .int p3, .int p4, .int (nI fr)] : List Value).toArray below meth c s.heap [] 0 0 Qg (F0 m 0 ls [])
  refine lv_aload_n hx hb d_Sha_addToState_0 rfl (lv_at hl 0 rfl) ?_
  refine va_get (D := (dC, dI)) (ci := 10) (v := .ref a) (C := R_Sha) (T := F_Sha) (N := 3) hx hb hts i_Sha hown hK hP 0 rfl rfl 0 (by decide) (hts _ m_50) (fun _ h9 => h9) rfl d_Sha_addToState_1 ?_
  refine lv_iload hx hb d_Sha_addToState_4 (lv_at hl 5 rfl) ?_
  refine lv_dup2_11 hx hb d_Sha_addToState_6 rfl rfl ?_
  refine kv_iald hx hb hK hP 1 0 rfl rfl (by omega) (by omega) d_Sha_addToState_7 ?_
  refine lv_topi (fun v_1 _ => ?_)
  refine lv_iload_n hx hb d_Sha_addToState_8 rfl (lv_at hl 1 rfl) ?_
  refine lv_iadd hx hb d_Sha_addToState_9 ?_
  refine lv_topi (fun v_2 _ => ?_)
  refine kv_iast hx hb hK hP hD hS 1 0 rfl rfl (by omega) (by omega) d_Sha_addToState_10 (fun H locs g_3 _ hP hD hS => ?_)
  have hP : va_P (dC, dI) CL [(s0, .inr (10, [.ref a, v1, v2])), (a, .inl (ka, 8, .inl g_3))] H := hP
  have hD : va_D A [(s0, .inr (10, [.ref a, v1, v2])), (a, .inl (ka, 8, .inl g_3))] := hD
  refine lv_aload_n hx hb d_Sha_addToState_11 rfl (lv_at hl 0 rfl) ?_
  refine va_get (D := (dC, dI)) (ci := 10) (v := .ref a) (C := R_Sha) (T := F_Sha) (N := 3) hx hb hts i_Sha hown hK hP 0 rfl rfl 0 (by decide) (hts _ m_50) (fun _ h9 => h9) rfl d_Sha_addToState_12 ?_
  refine lv_iload hx hb d_Sha_addToState_15 (lv_at hl 5 rfl) ?_
  refine lv_iconst (v := (nI 1)) hx hb d_Sha_addToState_17 (by decide +kernel) ?_
  refine lv_iadd hx hb d_Sha_addToState_18 ?_
  refine ki (v := nI (fr + 1)) (k_add fr 1 rfl) ?_
  refine lv_dup2_11 hx hb d_Sha_addToState_19 rfl rfl ?_
  refine kv_iald hx hb hK hP 1 0 rfl rfl (by omega) (by omega) d_Sha_addToState_20 ?_
  refine lv_topi (fun v_4 _ => ?_)
  refine lv_iload_n hx hb d_Sha_addToState_21 rfl (lv_at hl 2 rfl) ?_
  refine lv_iadd hx hb d_Sha_addToState_22 ?_
  refine lv_topi (fun v_5 _ => ?_)
  refine kv_iast hx hb hK hP hD hS 1 0 rfl rfl (by omega) (by omega) d_Sha_addToState_23 (fun H locs g_6 _ hP hD hS => ?_)
  have hP : va_P (dC, dI) CL [(s0, .inr (10, [.ref a, v1, v2])), (a, .inl (ka, 8, .inl g_6))] H := hP
  have hD : va_D A [(s0, .inr (10, [.ref a, v1, v2])), (a, .inl (ka, 8, .inl g_6))] := hD
  refine lv_aload_n hx hb d_Sha_addToState_24 rfl (lv_at hl 0 rfl) ?_
  refine va_get (D := (dC, dI)) (ci := 10) (v := .ref a) (C := R_Sha) (T := F_Sha) (N := 3) hx hb hts i_Sha hown hK hP 0 rfl rfl 0 (by decide) (hts _ m_50) (fun _ h9 => h9) rfl d_Sha_addToState_25 ?_
  refine lv_iload hx hb d_Sha_addToState_28 (lv_at hl 5 rfl) ?_
  refine lv_iconst (v := (nI 2)) hx hb d_Sha_addToState_30 (by decide +kernel) ?_
  refine lv_iadd hx hb d_Sha_addToState_31 ?_
  refine ki (v := nI (fr + 2)) (k_add fr 2 rfl) ?_
  refine lv_dup2_11 hx hb d_Sha_addToState_32 rfl rfl ?_
  refine kv_iald hx hb hK hP 1 0 rfl rfl (by omega) (by omega) d_Sha_addToState_33 ?_
  refine lv_topi (fun v_7 _ => ?_)
  refine lv_iload_n hx hb d_Sha_addToState_34 rfl (lv_at hl 3 rfl) ?_
  refine lv_iadd hx hb d_Sha_addToState_35 ?_
  refine lv_topi (fun v_8 _ => ?_)
  refine kv_iast hx hb hK hP hD hS 1 0 rfl rfl (by omega) (by omega) d_Sha_addToState_36 (fun H locs g_9 _ hP hD hS => ?_)
  have hP : va_P (dC, dI) CL [(s0, .inr (10, [.ref a, v1, v2])), (a, .inl (ka, 8, .inl g_9))] H := hP
  have hD : va_D A [(s0, .inr (10, [.ref a, v1, v2])), (a, .inl (ka, 8, .inl g_9))] := hD
  refine lv_aload_n hx hb d_Sha_addToState_37 rfl (lv_at hl 0 rfl) ?_
  refine va_get (D := (dC, dI)) (ci := 10) (v := .ref a) (C := R_Sha) (T := F_Sha) (N := 3) hx hb hts i_Sha hown hK hP 0 rfl rfl 0 (by decide) (hts _ m_50) (fun _ h9 => h9) rfl d_Sha_addToState_38 ?_
  refine lv_iload hx hb d_Sha_addToState_41 (lv_at hl 5 rfl) ?_
  refine lv_iconst (v := (nI 3)) hx hb d_Sha_addToState_43 (by decide +kernel) ?_
  refine lv_iadd hx hb d_Sha_addToState_44 ?_
  refine ki (v := nI (fr + 3)) (k_add fr 3 rfl) ?_
  refine lv_dup2_11 hx hb d_Sha_addToState_45 rfl rfl ?_
  refine kv_iald hx hb hK hP 1 0 rfl rfl (by omega) (by omega) d_Sha_addToState_46 ?_
  refine lv_topi (fun v_10 _ => ?_)
  refine lv_iload hx hb d_Sha_addToState_47 (lv_at hl 4 rfl) ?_
  refine lv_iadd hx hb d_Sha_addToState_49 ?_
  refine lv_topi (fun v_11 _ => ?_)
  refine kv_iast hx hb hK hP hD hS 1 0 rfl rfl (by omega) (by omega) d_Sha_addToState_50 (fun H locs g_12 _ hP hD hS => ?_)
  have hP : va_P (dC, dI) CL [(s0, .inr (10, [.ref a, v1, v2])), (a, .inl (ka, 8, .inl g_12))] H := hP
  have hD : va_D A [(s0, .inr (10, [.ref a, v1, v2])), (a, .inl (ka, 8, .inl g_12))] := hD
  have hP9 := hP.sub (ws' := [(s0, .inr (10, [.ref a, v1, v2])), (a, .inl (ka, 8, .inl g_12))]) [0, 1] rfl
  have hD9 := hD.sub (ws' := [(s0, .inr (10, [.ref a, v1, v2])), (a, .inl (ka, 8, .inl g_12))]) [0, 1] (by decide) rfl
  have hK9 := hK.sub (tys' := []) [] rfl
  rw [hQg]
  exact W.vret hx hb hr (fun t ht hW => ⟨⟨(g_12), rfl, trivial, by rw [ht]; exact hP9, va_K.moved hW.alike hK9, hD9⟩, hS.F ht⟩) hS.2.2 d_Sha_addToState_51

-- ThresholdBench$Sha.compress
set_option maxHeartbeats 4000000 in
set_option maxRecDepth 100000 in
theorem c_Sha_compress (l : Launch) (dC : Nat → ClassId) (dI : Nat → Nat → Nat) (s0 : Nat) (a : Nat) (b : Nat) (ka : ClassId) (kb : ClassId) (f : Nat → Int32) (g : Nat → Int32) (tk : Value) (sz : Nat)  : Met l y_Sha_compress (.code y_Sha_compress prog_9_method_8_code 13 (none) :: AW) ({ frames := 1, cells := 0, slots := 0, locals := 25 } : Room) (va_Pc [.ref s0] (pw (dC, dI) CL [(s0, .inr (10, [.ref a, .ref b, tk])), (a, .inl (ka, 8, .inl f)), (b, .inl (kb, 64, .inl g))] [(ka, .int), (kb, .int)] sz)) (va_Qv (fun u : (Nat → Int32) × (Nat → Int32) => True) (fun (u : (Nat → Int32) × (Nat → Int32)) t => qw (dC, dI) CL (va_A [(s0, .inr (10, [.ref a, .ref b, tk])), (a, .inl (ka, 8, .inl f)), (b, .inl (kb, 64, .inl g))] sz) ((fun u : (Nat → Int32) × (Nat → Int32) => [(s0, .inr (10, [.ref a, .ref b, tk])), (a, .inl (ka, 8, .inl u.1)), (b, .inl (kb, 64, .inl u.2))]) u) ((fun u : (Nat → Int32) × (Nat → Int32) => []) u) t) (va_A [(s0, .inr (10, [.ref a, .ref b, tk])), (a, .inl (ka, 8, .inl f)), (b, .inl (kb, 64, .inl g))] sz)) 0 0 (va_A [(s0, .inr (10, [.ref a, .ref b, tk])), (a, .inl (ka, 8, .inl f)), (b, .inl (kb, 64, .inl g))] sz) := by
  refine Met.ofW (cc := prog_9_method_8_code) (maxL := 13) (ret := none) (by decide) rfl ?_
  intro p e s m args below meth c s₁ B hml hv
  obtain ⟨rfl, hsz, hP, hK, hD0, hZ, hN⟩ := hv
  have hx := B.exec
  have hb := B.bytes
  have hr := B.returns
  have hts := kw (atoms_spec (ws := .code y_Sha_compress prog_9_method_8_code 13 (none) :: AW) B.pre)
  have hown : s.vm.findClass R_Sha = some m.cls := findClass_of_methodNamed B.named
  have hlocks := B.notSynchronized
  subst hsz
  have hD := hD0.self (sz := s.heap.size)
  obtain ⟨Qg, hQg⟩ : ∃ q, q = MQ below (va_Qv (fun u : (Nat → Int32) × (Nat → Int32) => True) (fun (u : (Nat → Int32) × (Nat → Int32)) t => qw (dC, dI) CL (va_A [(s0, .inr (10, [.ref a, .ref b, tk])), (a, .inl (ka, 8, .inl f)), (b, .inl (kb, 64, .inl g))] s.heap.size) ((fun u : (Nat → Int32) × (Nat → Int32) => [(s0, .inr (10, [.ref a, .ref b, tk])), (a, .inl (ka, 8, .inl u.1)), (b, .inl (kb, 64, .inl u.2))]) u) ((fun u : (Nat → Int32) × (Nat → Int32) => []) u) t) (va_A [(s0, .inr (10, [.ref a, .ref b, tk])), (a, .inl (ka, 8, .inl f)), (b, .inl (kb, 64, .inl g))] s.heap.size)) ([.ref s0] : List Value).toArray s 0 0 (va_A [(s0, .inr (10, [.ref a, .ref b, tk])), (a, .inl (ka, 8, .inl f)), (b, .inl (kb, 64, .inl g))] s.heap.size) := ⟨_, rfl⟩
  rw [← hQg]
  generalize hAe : va_A [(s0, .inr (10, [.ref a, .ref b, tk])), (a, .inl (ka, 8, .inl f)), (b, .inl (kb, 64, .inl g))] s.heap.size = A at hD hZ hQg
  have hA : ∀ q : Nat, s.heap.size ≤ q → A q := fun q h => by rw [← hAe]; exact Or.inr h
  have hS : va_S A s.heap s.heap [] := va_S.rf
  have hP : va_P (dC, dI) CL [(s0, .inr (10, [.ref a, .ref b, tk])), (a, .inl (ka, 8, .inl f)), (b, .inl (kb, 64, .inl g))] s.heap := hP
  have hl := lv_entry ([.ref s0]) (n := 13) (Nat.le_of_ble_eq_true rfl)
  rw [lg_entry_eq]
  generalize (lg_sl ([.ref s0]) ++ List.replicate (13 - (lg_sl ([.ref s0])).length) Slot.unset).toArray = ls at hl ⊢
  have hl : lv_has ls 13 [(0, .ref s0)] := hl
  show W p l e ({ frames := 1, cells := 0, slots := 0, locals := 25 } : Room) s m ([.ref s0] : List Value).toArray below meth c s.heap [] 0 0 Qg (F0 m 0 ls [])
  obtain ⟨hZ1, hZ2, ⟨tS, fS, hZS, hTS⟩, ⟨tR, fR, hZR, hTR⟩⟩ := id hZ
  refine lv_aload_n hx hb d_Sha_compress_0 rfl (lv_at hl 0 rfl) ?_
  refine va_get (D := (dC, dI)) (ci := 10) (v := .ref b) (C := R_Sha) (T := F_Sha) (N := 3) hx hb hts i_Sha hown hK hP 0 rfl rfl 1 (by decide) (hts _ m_51) (fun _ h9 => h9) rfl d_Sha_compress_1 ?_
  refine lv_astore_n (lv' := [(1, .ref b), (0, .ref s0)]) hx hb d_Sha_compress_4 rfl hl (by decide) rfl (fun ls hl => ?_)
  refine lv_bipush (v := (nI 16)) hx hb d_Sha_compress_5 (by decide +kernel) ?_
  refine lv_istore_n (lv' := [(2, .int (nI 16)), (1, .ref b), (0, .ref s0)]) hx hb d_Sha_compress_7 rfl hl (by decide) rfl (fun ls hl => ?_)
  have lb_8 : ∀ (n9 : Nat) (i9 : Nat) (g9 : Nat → Int32) (H : Heap) (locs : List Loc) (ls : Array Slot), (16 ≤ i9 ∧ i9 ≤ 64) → (64 - i9 < n9) → va_P (dC, dI) CL [(s0, .inr (10, [.ref a, .ref b, tk])), (a, .inl (ka, 8, .inl f)), (b, .inl (kb, 64, .inl g9))] H → va_D A [(s0, .inr (10, [.ref a, .ref b, tk])), (a, .inl (ka, 8, .inl f)), (b, .inl (kb, 64, .inl g9))] → va_S A s.heap H locs → lv_has ls 13 [(0, .ref s0), (1, .ref b), (2, .int (nI i9))] → W p l e ({ frames := 1, cells := 0, slots := 0, locals := 25 } : Room) s m ([.ref s0] : List Value).toArray below meth c H locs 0 0 Qg (F0 m 8 ls []) := by
    intro n9
    induction n9 with
    | zero => intro i9 g9 H locs ls hi9 hm9; exact absurd hm9 (Nat.not_lt_zero _)
    | succ n9 ih8 =>
      intro i9 g9 H locs ls hi9 hm8 hP hD hS hl
      refine lv_iload_n hx hb d_Sha_compress_8 rfl (lv_at hl 2 rfl) ?_
      refine lv_bipush (v := (nI 64)) hx hb d_Sha_compress_9 (by decide +kernel) ?_
      refine lv_icmp_ge (tgt := 104) hx hb d_Sha_compress_11 (by decide) (fun c11 => ?_) (fun c11 => ?_)
      · have c11 : 64 ≤ i9 := (nI_leI (by omega) (by omega)).mp c11
        refine lv_aload_n hx hb d_Sha_compress_104 rfl (lv_at hl 0 rfl) ?_
        refine va_get (D := (dC, dI)) (ci := 10) (v := .ref a) (C := R_Sha) (T := F_Sha) (N := 3) hx hb hts i_Sha hown hK hP 0 rfl rfl 0 (by decide) (hts _ m_50) (fun _ h9 => h9) rfl d_Sha_compress_105 ?_
        refine lv_iconst (v := (nI 0)) hx hb d_Sha_compress_108 (by decide +kernel) ?_
        refine kv_iald hx hb hK hP 1 0 rfl rfl (by omega) (by omega) d_Sha_compress_109 ?_
        refine lv_topi (fun v_1 _ => ?_)
        refine lv_istore_n (lv' := [(2, .int v_1), (0, .ref s0), (1, .ref b)]) hx hb d_Sha_compress_110 rfl hl (by decide) rfl (fun ls hl => ?_)
        refine lv_aload_n hx hb d_Sha_compress_111 rfl (lv_at hl 1 rfl) ?_
        refine va_get (D := (dC, dI)) (ci := 10) (v := .ref a) (C := R_Sha) (T := F_Sha) (N := 3) hx hb hts i_Sha hown hK hP 0 rfl rfl 0 (by decide) (hts _ m_50) (fun _ h9 => h9) rfl d_Sha_compress_112 ?_
        refine lv_iconst (v := (nI 1)) hx hb d_Sha_compress_115 (by decide +kernel) ?_
        refine kv_iald hx hb hK hP 1 0 rfl rfl (by omega) (by omega) d_Sha_compress_116 ?_
        refine lv_topi (fun v_2 _ => ?_)
        refine lv_istore_n (lv' := [(3, .int v_2), (2, .int v_1), (0, .ref s0), (1, .ref b)]) hx hb d_Sha_compress_117 rfl hl (by decide) rfl (fun ls hl => ?_)
        refine lv_aload_n hx hb d_Sha_compress_118 rfl (lv_at hl 2 rfl) ?_
        refine va_get (D := (dC, dI)) (ci := 10) (v := .ref a) (C := R_Sha) (T := F_Sha) (N := 3) hx hb hts i_Sha hown hK hP 0 rfl rfl 0 (by decide) (hts _ m_50) (fun _ h9 => h9) rfl d_Sha_compress_119 ?_
        refine lv_iconst (v := (nI 2)) hx hb d_Sha_compress_122 (by decide +kernel) ?_
        refine kv_iald hx hb hK hP 1 0 rfl rfl (by omega) (by omega) d_Sha_compress_123 ?_
        refine lv_topi (fun v_3 _ => ?_)
        refine lv_istore (lv' := [(4, .int v_3), (3, .int v_2), (2, .int v_1), (0, .ref s0), (1, .ref b)]) hx hb d_Sha_compress_124 hl (by decide) rfl (fun ls hl => ?_)
        refine lv_aload_n hx hb d_Sha_compress_126 rfl (lv_at hl 3 rfl) ?_
        refine va_get (D := (dC, dI)) (ci := 10) (v := .ref a) (C := R_Sha) (T := F_Sha) (N := 3) hx hb hts i_Sha hown hK hP 0 rfl rfl 0 (by decide) (hts _ m_50) (fun _ h9 => h9) rfl d_Sha_compress_127 ?_
        refine lv_iconst (v := (nI 3)) hx hb d_Sha_compress_130 (by decide +kernel) ?_
        refine kv_iald hx hb hK hP 1 0 rfl rfl (by omega) (by omega) d_Sha_compress_131 ?_
        refine lv_topi (fun v_4 _ => ?_)
        refine lv_istore (lv' := [(5, .int v_4), (4, .int v_3), (3, .int v_2), (2, .int v_1), (0, .ref s0), (1, .ref b)]) hx hb d_Sha_compress_132 hl (by decide) rfl (fun ls hl => ?_)
        refine lv_aload_n hx hb d_Sha_compress_134 rfl (lv_at hl 4 rfl) ?_
        refine va_get (D := (dC, dI)) (ci := 10) (v := .ref a) (C := R_Sha) (T := F_Sha) (N := 3) hx hb hts i_Sha hown hK hP 0 rfl rfl 0 (by decide) (hts _ m_50) (fun _ h9 => h9) rfl d_Sha_compress_135 ?_
        refine lv_iconst (v := (nI 4)) hx hb d_Sha_compress_138 (by decide +kernel) ?_
        refine kv_iald hx hb hK hP 1 0 rfl rfl (by omega) (by omega) d_Sha_compress_139 ?_
        refine lv_topi (fun v_5 _ => ?_)
        refine lv_istore (lv' := [(6, .int v_5), (5, .int v_4), (4, .int v_3), (3, .int v_2), (2, .int v_1), (0, .ref s0), (1, .ref b)]) hx hb d_Sha_compress_140 hl (by decide) rfl (fun ls hl => ?_)
        refine lv_aload_n hx hb d_Sha_compress_142 rfl (lv_at hl 5 rfl) ?_
        refine va_get (D := (dC, dI)) (ci := 10) (v := .ref a) (C := R_Sha) (T := F_Sha) (N := 3) hx hb hts i_Sha hown hK hP 0 rfl rfl 0 (by decide) (hts _ m_50) (fun _ h9 => h9) rfl d_Sha_compress_143 ?_
        refine lv_iconst (v := (nI 5)) hx hb d_Sha_compress_146 (by decide +kernel) ?_
        refine kv_iald hx hb hK hP 1 0 rfl rfl (by omega) (by omega) d_Sha_compress_147 ?_
        refine lv_topi (fun v_6 _ => ?_)
        refine lv_istore (lv' := [(7, .int v_6), (6, .int v_5), (5, .int v_4), (4, .int v_3), (3, .int v_2), (2, .int v_1), (0, .ref s0), (1, .ref b)]) hx hb d_Sha_compress_148 hl (by decide) rfl (fun ls hl => ?_)
        refine lv_aload_n hx hb d_Sha_compress_150 rfl (lv_at hl 6 rfl) ?_
        refine va_get (D := (dC, dI)) (ci := 10) (v := .ref a) (C := R_Sha) (T := F_Sha) (N := 3) hx hb hts i_Sha hown hK hP 0 rfl rfl 0 (by decide) (hts _ m_50) (fun _ h9 => h9) rfl d_Sha_compress_151 ?_
        refine lv_bipush (v := (nI 6)) hx hb d_Sha_compress_154 (by decide +kernel) ?_
        refine kv_iald hx hb hK hP 1 0 rfl rfl (by omega) (by omega) d_Sha_compress_156 ?_
        refine lv_topi (fun v_7 _ => ?_)
        refine lv_istore (lv' := [(8, .int v_7), (7, .int v_6), (6, .int v_5), (5, .int v_4), (4, .int v_3), (3, .int v_2), (2, .int v_1), (0, .ref s0), (1, .ref b)]) hx hb d_Sha_compress_157 hl (by decide) rfl (fun ls hl => ?_)
        refine lv_aload_n hx hb d_Sha_compress_159 rfl (lv_at hl 7 rfl) ?_
        refine va_get (D := (dC, dI)) (ci := 10) (v := .ref a) (C := R_Sha) (T := F_Sha) (N := 3) hx hb hts i_Sha hown hK hP 0 rfl rfl 0 (by decide) (hts _ m_50) (fun _ h9 => h9) rfl d_Sha_compress_160 ?_
        refine lv_bipush (v := (nI 7)) hx hb d_Sha_compress_163 (by decide +kernel) ?_
        refine kv_iald hx hb hK hP 1 0 rfl rfl (by omega) (by omega) d_Sha_compress_165 ?_
        refine lv_topi (fun v_8 _ => ?_)
        refine lv_istore (lv' := [(9, .int v_8), (8, .int v_7), (7, .int v_6), (6, .int v_5), (5, .int v_4), (4, .int v_3), (3, .int v_2), (2, .int v_1), (0, .ref s0), (1, .ref b)]) hx hb d_Sha_compress_166 hl (by decide) rfl (fun ls hl => ?_)
        refine lv_iconst (v := (nI 0)) hx hb d_Sha_compress_168 (by decide +kernel) ?_
        refine lv_istore (lv' := [(10, .int (nI 0)), (9, .int v_8), (8, .int v_7), (7, .int v_6), (6, .int v_5), (5, .int v_4), (4, .int v_3), (3, .int v_2), (2, .int v_1), (0, .ref s0), (1, .ref b)]) hx hb d_Sha_compress_169 hl (by decide) rfl (fun ls hl => ?_)
        have lb_171 : ∀ (n9 : Nat) (j9 : Nat) (y2 : Int32) (y3 : Int32) (y4 : Int32) (y5 : Int32) (y6 : Int32) (y7 : Int32) (y8 : Int32) (y9 : Int32) (H : Heap) (locs : List Loc) (ls : Array Slot), (j9 ≤ 64) → (64 - j9 < n9) → va_P (dC, dI) CL [(s0, .inr (10, [.ref a, .ref b, tk])), (a, .inl (ka, 8, .inl f)), (b, .inl (kb, 64, .inl g9))] H → va_D A [(s0, .inr (10, [.ref a, .ref b, tk])), (a, .inl (ka, 8, .inl f)), (b, .inl (kb, 64, .inl g9))] → va_S A s.heap H locs → lv_has ls 13 [(0, .ref s0), (1, .ref b), (2, .int y2), (3, .int y3), (4, .int y4), (5, .int y5), (6, .int y6), (7, .int y7), (8, .int y8), (9, .int y9), (10, .int (nI j9))] → W p l e ({ frames := 1, cells := 0, slots := 0, locals := 25 } : Room) s m ([.ref s0] : List Value).toArray below meth c H locs 0 0 Qg (F0 m 171 ls []) := by
          intro n9
          induction n9 with
          | zero => intro j9 y2 y3 y4 y5 y6 y7 y8 y9 H locs ls hj9 hm9; exact absurd hm9 (Nat.not_lt_zero _)
          | succ n9 ih171 =>
            intro j9 y2 y3 y4 y5 y6 y7 y8 y9 H locs ls hj9 hm171 hP hD hS hl
            refine lv_iload hx hb d_Sha_compress_171 (lv_at hl 10 rfl) ?_
            refine lv_bipush (v := (nI 64)) hx hb d_Sha_compress_173 (by decide +kernel) ?_
            refine lv_icmp_ge (tgt := 328) hx hb d_Sha_compress_175 (by decide) (fun c175 => ?_) (fun c175 => ?_)
            · have c175 : 64 ≤ j9 := (nI_leI (by omega) (by omega)).mp c175
              refine lv_aload_n hx hb d_Sha_compress_328 rfl (lv_at hl 0 rfl) ?_
              refine lv_iload_n hx hb d_Sha_compress_329 rfl (lv_at hl 2 rfl) ?_
              refine lv_iload_n hx hb d_Sha_compress_330 rfl (lv_at hl 3 rfl) ?_
              refine lv_iload hx hb d_Sha_compress_331 (lv_at hl 4 rfl) ?_
              refine lv_iload hx hb d_Sha_compress_333 (lv_at hl 5 rfl) ?_
              refine lv_iconst (v := (nI 0)) hx hb d_Sha_compress_335 (by decide +kernel) ?_
              refine k_finv (wr := [(b, .inl (kb, 64, .inl g9))]) [0, 1] [2] (k_runV (n := 5) (As := [.int y2, .int y3, .int y4, .int y5, .int (nI 0)]) (rest := []) (wc := [(s0, .inr (10, [.ref a, .ref b, tk])), (a, .inl (ka, 8, .inl f))]) ⟨hx, hb, hml, hown, hts⟩ (c_Sha_add l dC dI s0 a ka f (.ref b) tk y2 y3 y4 y5 0 _ (by decide)) (kg_V m_200 m_201 m_202 m_55 (kg_code m_199)) (by decide +kernel) rfl rfl ⟨Nat.le_of_ble_eq_true rfl, Nat.le_of_ble_eq_true rfl⟩ [0, 1] [0] hP hD hK hS hA hZ hN (by rfl) (by decide) (by rfl) rfl rfl rfl rfl hl.1 rfl (Nat.le_of_ble_eq_true rfl) d_Sha_compress_336 ⟨(Nat.le_of_ble_eq_true rfl), (Nat.le_of_ble_eq_true rfl)⟩) hP hD hK hS hA (by rfl) (by rfl) (by decide) (by decide) (fun u9 H locs hw_11 hP hD hK hS => ?_)
              obtain ⟨f_9, rfl⟩ : ∃ z, z = u9 := ⟨_, rfl⟩
              try dsimp only at hw_11
              have hP : va_P (dC, dI) CL [(b, .inl (kb, 64, .inl g9)), (s0, .inr (10, [.ref a, .ref b, tk])), (a, .inl (ka, 8, .inl f_9))] H := hP
              have hD : va_D A [(b, .inl (kb, 64, .inl g9)), (s0, .inr (10, [.ref a, .ref b, tk])), (a, .inl (ka, 8, .inl f_9))] := hD
              have hK : va_K (dC, dI) CL [(ka, .int), (kb, .int)] s := hK
              refine lv_aload_n hx hb d_Sha_compress_339 rfl (lv_at hl 0 rfl) ?_
              refine lv_iload hx hb d_Sha_compress_340 (lv_at hl 6 rfl) ?_
              refine lv_iload hx hb d_Sha_compress_342 (lv_at hl 7 rfl) ?_
              refine lv_iload hx hb d_Sha_compress_344 (lv_at hl 8 rfl) ?_
              refine lv_iload hx hb d_Sha_compress_346 (lv_at hl 9 rfl) ?_
              refine lv_iconst (v := (nI 4)) hx hb d_Sha_compress_348 (by decide +kernel) ?_
              refine k_finv (wr := [(b, .inl (kb, 64, .inl g9))]) [1, 2] [0] (k_runV (n := 5) (As := [.int y6, .int y7, .int y8, .int y9, .int (nI 4)]) (rest := []) (wc := [(s0, .inr (10, [.ref a, .ref b, tk])), (a, .inl (ka, 8, .inl f_9))]) ⟨hx, hb, hml, hown, hts⟩ (c_Sha_add l dC dI s0 a ka f_9 (.ref b) tk y6 y7 y8 y9 4 _ (by decide)) (kg_V m_200 m_201 m_202 m_55 (kg_code m_199)) (by decide +kernel) rfl rfl ⟨Nat.le_of_ble_eq_true rfl, Nat.le_of_ble_eq_true rfl⟩ [1, 2] [0] hP hD hK hS hA hZ hN (by rfl) (by decide) (by rfl) rfl rfl rfl rfl hl.1 rfl (Nat.le_of_ble_eq_true rfl) d_Sha_compress_349 ⟨(Nat.le_of_ble_eq_true rfl), (Nat.le_of_ble_eq_true rfl)⟩) hP hD hK hS hA (by rfl) (by rfl) (by decide) (by decide) (fun u9 H locs hw_14 hP hD hK hS => ?_)
              obtain ⟨f_12, rfl⟩ : ∃ z, z = u9 := ⟨_, rfl⟩
              try dsimp only at hw_14
              have hP : va_P (dC, dI) CL [(b, .inl (kb, 64, .inl g9)), (s0, .inr (10, [.ref a, .ref b, tk])), (a, .inl (ka, 8, .inl f_12))] H := hP
              have hD : va_D A [(b, .inl (kb, 64, .inl g9)), (s0, .inr (10, [.ref a, .ref b, tk])), (a, .inl (ka, 8, .inl f_12))] := hD
              have hK : va_K (dC, dI) CL [(ka, .int), (kb, .int)] s := hK
              refine lv_aload_n hx hb d_Sha_compress_352 rfl (lv_at hl 1 rfl) ?_
              refine lv_iconst (v := (nI 0)) hx hb d_Sha_compress_353 (by decide +kernel) ?_
              refine k_finv (wr := [(s0, .inr (10, [.ref a, .ref b, tk])), (a, .inl (ka, 8, .inl f_12))]) [0] [1, 2] (k_runS (n := 2) (As := [.ref b, .int (nI 0)]) (rest := []) (wc := [(b, .inl (kb, 64, .inl g9))]) ⟨hx, hb, hml, hown, hts⟩ (c_Arr_fill l dC dI b kb 64 g9 (nI 0) _ (by decide)) (kg_S m_204 m_205 m_206 (kg_code m_203)) (by decide +kernel) rfl rfl ⟨Nat.le_of_ble_eq_true rfl, Nat.le_of_ble_eq_true rfl⟩ [0] [1] hP hD hK hS hA hZ hN (by rfl) (by decide) (by rfl) rfl hl.1 rfl (Nat.le_of_ble_eq_true rfl) d_Sha_compress_354 ⟨(Nat.le_of_ble_eq_true rfl), (Nat.le_of_ble_eq_true rfl)⟩) hP hD hK hS hA (by rfl) (by rfl) (by decide) (by decide) (fun u9 H locs hw_17 hP hD hK hS => ?_)
              obtain ⟨g_15, rfl⟩ : ∃ z, z = u9 := ⟨_, rfl⟩
              try dsimp only at hw_17
              have hP : va_P (dC, dI) CL [(s0, .inr (10, [.ref a, .ref b, tk])), (a, .inl (ka, 8, .inl f_12)), (b, .inl (kb, 64, .inl g_15))] H := hP
              have hD : va_D A [(s0, .inr (10, [.ref a, .ref b, tk])), (a, .inl (ka, 8, .inl f_12)), (b, .inl (kb, 64, .inl g_15))] := hD
              have hK : va_K (dC, dI) CL [(ka, .int), (kb, .int)] s := hK
              have hP9 := hP.sub (ws' := [(s0, .inr (10, [.ref a, .ref b, tk])), (a, .inl (ka, 8, .inl f_12)), (b, .inl (kb, 64, .inl g_15))]) [0, 1, 2] rfl
              have hD9 := hD.sub (ws' := [(s0, .inr (10, [.ref a, .ref b, tk])), (a, .inl (ka, 8, .inl f_12)), (b, .inl (kb, 64, .inl g_15))]) [0, 1, 2] (by decide) rfl
              have hK9 := hK.sub (tys' := []) [] rfl
              rw [hQg]
              exact W.vret hx hb hr (fun t ht hW => ⟨⟨(f_12, g_15), rfl, trivial, by rw [ht]; exact hP9, va_K.moved hW.alike hK9, hD9⟩, hS.F ht⟩) hS.2.2 d_Sha_compress_357
            · have c175 : ¬ (64 ≤ j9) := fun h => c175 ((nI_leI (by omega) (by omega)).mpr h)
              refine lv_iload hx hb d_Sha_compress_178 (lv_at hl 9 rfl) ?_
              refine lv_iload hx hb d_Sha_compress_180 (lv_at hl 6 rfl) ?_
              refine lv_bipush (v := (nI 6)) hx hb d_Sha_compress_182 (by decide +kernel) ?_
              refine lv_iushr hx hb d_Sha_compress_184 rfl ?_
              refine lv_topi (fun v_18 _ => ?_)
              refine lv_iload hx hb d_Sha_compress_185 (lv_at hl 6 rfl) ?_
              refine lv_bipush (v := (nI 26)) hx hb d_Sha_compress_187 (by decide +kernel) ?_
              refine lv_ishl hx hb d_Sha_compress_189 ?_
              refine lv_topi (fun v_19 _ => ?_)
              refine lv_ior hx hb d_Sha_compress_190 ?_
              refine lv_topi (fun v_20 _ => ?_)
              refine lv_iload hx hb d_Sha_compress_191 (lv_at hl 6 rfl) ?_
              refine lv_bipush (v := (nI 11)) hx hb d_Sha_compress_193 (by decide +kernel) ?_
              refine lv_iushr hx hb d_Sha_compress_195 rfl ?_
              refine lv_topi (fun v_21 _ => ?_)
              refine lv_iload hx hb d_Sha_compress_196 (lv_at hl 6 rfl) ?_
              refine lv_bipush (v := (nI 21)) hx hb d_Sha_compress_198 (by decide +kernel) ?_
              refine lv_ishl hx hb d_Sha_compress_200 ?_
              refine lv_topi (fun v_22 _ => ?_)
              refine lv_ior hx hb d_Sha_compress_201 ?_
              refine lv_topi (fun v_23 _ => ?_)
              refine lv_ixor hx hb d_Sha_compress_202 ?_
              refine lv_topi (fun v_24 _ => ?_)
              refine lv_iload hx hb d_Sha_compress_203 (lv_at hl 6 rfl) ?_
              refine lv_bipush (v := (nI 25)) hx hb d_Sha_compress_205 (by decide +kernel) ?_
              refine lv_iushr hx hb d_Sha_compress_207 rfl ?_
              refine lv_topi (fun v_25 _ => ?_)
              refine lv_iload hx hb d_Sha_compress_208 (lv_at hl 6 rfl) ?_
              refine lv_bipush (v := (nI 7)) hx hb d_Sha_compress_210 (by decide +kernel) ?_
              refine lv_ishl hx hb d_Sha_compress_212 ?_
              refine lv_topi (fun v_26 _ => ?_)
              refine lv_ior hx hb d_Sha_compress_213 ?_
              refine lv_topi (fun v_27 _ => ?_)
              refine lv_ixor hx hb d_Sha_compress_214 ?_
              refine lv_topi (fun v_28 _ => ?_)
              refine lv_iadd hx hb d_Sha_compress_215 ?_
              refine lv_topi (fun v_29 _ => ?_)
              refine lv_iload hx hb d_Sha_compress_216 (lv_at hl 6 rfl) ?_
              refine lv_iload hx hb d_Sha_compress_218 (lv_at hl 7 rfl) ?_
              refine lv_iand hx hb d_Sha_compress_220 ?_
              refine lv_topi (fun v_30 _ => ?_)
              refine lv_iload hx hb d_Sha_compress_221 (lv_at hl 6 rfl) ?_
              refine lv_iconst (v := (-1)) hx hb d_Sha_compress_223 (by decide +kernel) ?_
              refine lv_ixor hx hb d_Sha_compress_224 ?_
              refine lv_topi (fun v_31 _ => ?_)
              refine lv_iload hx hb d_Sha_compress_225 (lv_at hl 8 rfl) ?_
              refine lv_iand hx hb d_Sha_compress_227 ?_
              refine lv_topi (fun v_32 _ => ?_)
              refine lv_ixor hx hb d_Sha_compress_228 ?_
              refine lv_topi (fun v_33 _ => ?_)
              refine lv_iadd hx hb d_Sha_compress_229 ?_
              refine lv_topi (fun v_34 _ => ?_)
              refine va_gets hx hb hZR hS hown (hts _ m_207) (fun _ h9 => h9) d_Sha_compress_230 ?_
              refine lv_iload hx hb d_Sha_compress_233 (lv_at hl 10 rfl) ?_
              refine kv_ti hx hb hTR hS (by omega) (by decide) d_Sha_compress_235 ?_
              refine lv_topi (fun v_35 _ => ?_)
              refine lv_iadd hx hb d_Sha_compress_236 ?_
              refine lv_topi (fun v_36 _ => ?_)
              refine lv_aload_n hx hb d_Sha_compress_237 rfl (lv_at hl 1 rfl) ?_
              refine lv_iload hx hb d_Sha_compress_238 (lv_at hl 10 rfl) ?_
              refine kv_iald hx hb hK hP 2 1 rfl rfl (by omega) (by omega) d_Sha_compress_240 ?_
              refine lv_topi (fun v_37 _ => ?_)
              refine lv_iadd hx hb d_Sha_compress_241 ?_
              refine lv_topi (fun v_38 _ => ?_)
              refine lv_istore (lv' := [(11, .int v_38), (0, .ref s0), (1, .ref b), (2, .int y2), (3, .int y3), (4, .int y4), (5, .int y5), (6, .int y6), (7, .int y7), (8, .int y8), (9, .int y9), (10, .int (nI j9))]) hx hb d_Sha_compress_242 hl (by decide) rfl (fun ls hl => ?_)
              refine lv_iload_n hx hb d_Sha_compress_244 rfl (lv_at hl 3 rfl) ?_
              refine lv_iconst (v := (nI 2)) hx hb d_Sha_compress_245 (by decide +kernel) ?_
              refine lv_iushr hx hb d_Sha_compress_246 rfl ?_
              refine lv_topi (fun v_39 _ => ?_)
              refine lv_iload_n hx hb d_Sha_compress_247 rfl (lv_at hl 3 rfl) ?_
              refine lv_bipush (v := (nI 30)) hx hb d_Sha_compress_248 (by decide +kernel) ?_
              refine lv_ishl hx hb d_Sha_compress_250 ?_
              refine lv_topi (fun v_40 _ => ?_)
              refine lv_ior hx hb d_Sha_compress_251 ?_
              refine lv_topi (fun v_41 _ => ?_)
              refine lv_iload_n hx hb d_Sha_compress_252 rfl (lv_at hl 3 rfl) ?_
              refine lv_bipush (v := (nI 13)) hx hb d_Sha_compress_253 (by decide +kernel) ?_
              refine lv_iushr hx hb d_Sha_compress_255 rfl ?_
              refine lv_topi (fun v_42 _ => ?_)
              refine lv_iload_n hx hb d_Sha_compress_256 rfl (lv_at hl 3 rfl) ?_
              refine lv_bipush (v := (nI 19)) hx hb d_Sha_compress_257 (by decide +kernel) ?_
              refine lv_ishl hx hb d_Sha_compress_259 ?_
              refine lv_topi (fun v_43 _ => ?_)
              refine lv_ior hx hb d_Sha_compress_260 ?_
              refine lv_topi (fun v_44 _ => ?_)
              refine lv_ixor hx hb d_Sha_compress_261 ?_
              refine lv_topi (fun v_45 _ => ?_)
              refine lv_iload_n hx hb d_Sha_compress_262 rfl (lv_at hl 3 rfl) ?_
              refine lv_bipush (v := (nI 22)) hx hb d_Sha_compress_263 (by decide +kernel) ?_
              refine lv_iushr hx hb d_Sha_compress_265 rfl ?_
              refine lv_topi (fun v_46 _ => ?_)
              refine lv_iload_n hx hb d_Sha_compress_266 rfl (lv_at hl 3 rfl) ?_
              refine lv_bipush (v := (nI 10)) hx hb d_Sha_compress_267 (by decide +kernel) ?_
              refine lv_ishl hx hb d_Sha_compress_269 ?_
              refine lv_topi (fun v_47 _ => ?_)
              refine lv_ior hx hb d_Sha_compress_270 ?_
              refine lv_topi (fun v_48 _ => ?_)
              refine lv_ixor hx hb d_Sha_compress_271 ?_
              refine lv_topi (fun v_49 _ => ?_)
              refine lv_iload_n hx hb d_Sha_compress_272 rfl (lv_at hl 3 rfl) ?_
              refine lv_iload_n hx hb d_Sha_compress_273 rfl (lv_at hl 4 rfl) ?_
              refine lv_iand hx hb d_Sha_compress_274 ?_
              refine lv_topi (fun v_50 _ => ?_)
              refine lv_iload_n hx hb d_Sha_compress_275 rfl (lv_at hl 3 rfl) ?_
              refine lv_iload hx hb d_Sha_compress_276 (lv_at hl 5 rfl) ?_
              refine lv_iand hx hb d_Sha_compress_278 ?_
              refine lv_topi (fun v_51 _ => ?_)
              refine lv_ixor hx hb d_Sha_compress_279 ?_
              refine lv_topi (fun v_52 _ => ?_)
              refine lv_iload_n hx hb d_Sha_compress_280 rfl (lv_at hl 4 rfl) ?_
              refine lv_iload hx hb d_Sha_compress_281 (lv_at hl 5 rfl) ?_
              refine lv_iand hx hb d_Sha_compress_283 ?_
              refine lv_topi (fun v_53 _ => ?_)
              refine lv_ixor hx hb d_Sha_compress_284 ?_
              refine lv_topi (fun v_54 _ => ?_)
              refine lv_iadd hx hb d_Sha_compress_285 ?_
              refine lv_topi (fun v_55 _ => ?_)
              refine lv_istore (lv' := [(12, .int v_55), (11, .int v_38), (0, .ref s0), (1, .ref b), (2, .int y2), (3, .int y3), (4, .int y4), (5, .int y5), (6, .int y6), (7, .int y7), (8, .int y8), (9, .int y9), (10, .int (nI j9))]) hx hb d_Sha_compress_286 hl (by decide) rfl (fun ls hl => ?_)
              refine lv_iload hx hb d_Sha_compress_288 (lv_at hl 10 rfl) ?_
              refine lv_istore (lv' := [(9, .int y8), (12, .int v_55), (11, .int v_38), (0, .ref s0), (1, .ref b), (2, .int y2), (3, .int y3), (4, .int y4), (5, .int y5), (6, .int y6), (7, .int y7), (8, .int y8), (10, .int (nI j9))]) hx hb d_Sha_compress_290 hl (by decide) rfl (fun ls hl => ?_)
              refine lv_iload hx hb d_Sha_compress_292 (lv_at hl 10 rfl) ?_
              refine lv_istore (lv' := [(8, .int y7), (9, .int y8), (12, .int v_55), (11, .int v_38), (0, .ref s0), (1, .ref b), (2, .int y2), (3, .int y3), (4, .int y4), (5, .int y5), (6, .int y6), (7, .int y7), (10, .int (nI j9))]) hx hb d_Sha_compress_294 hl (by decide) rfl (fun ls hl => ?_)
              refine lv_iload hx hb d_Sha_compress_296 (lv_at hl 10 rfl) ?_
              refine lv_istore (lv' := [(7, .int y6), (8, .int y7), (9, .int y8), (12, .int v_55), (11, .int v_38), (0, .ref s0), (1, .ref b), (2, .int y2), (3, .int y3), (4, .int y4), (5, .int y5), (6, .int y6), (10, .int (nI j9))]) hx hb d_Sha_compress_298 hl (by decide) rfl (fun ls hl => ?_)
              refine lv_iload hx hb d_Sha_compress_300 (lv_at hl 10 rfl) ?_
              refine lv_iload hx hb d_Sha_compress_302 (lv_at hl 4 rfl) ?_
              refine lv_iadd hx hb d_Sha_compress_304 ?_
              refine lv_topi (fun v_56 _ => ?_)
              refine lv_istore (lv' := [(6, .int v_56), (7, .int y6), (8, .int y7), (9, .int y8), (12, .int v_55), (11, .int v_38), (0, .ref s0), (1, .ref b), (2, .int y2), (3, .int y3), (4, .int y4), (5, .int y5), (10, .int (nI j9))]) hx hb d_Sha_compress_305 hl (by decide) rfl (fun ls hl => ?_)
              refine lv_iload hx hb d_Sha_compress_307 (lv_at hl 10 rfl) ?_
              refine lv_istore (lv' := [(5, .int y4), (6, .int v_56), (7, .int y6), (8, .int y7), (9, .int y8), (12, .int v_55), (11, .int v_38), (0, .ref s0), (1, .ref b), (2, .int y2), (3, .int y3), (4, .int y4), (10, .int (nI j9))]) hx hb d_Sha_compress_309 hl (by decide) rfl (fun ls hl => ?_)
              refine lv_iload_n hx hb d_Sha_compress_311 rfl (lv_at hl 10 rfl) ?_
              refine lv_istore (lv' := [(4, .int y3), (5, .int y4), (6, .int v_56), (7, .int y6), (8, .int y7), (9, .int y8), (12, .int v_55), (11, .int v_38), (0, .ref s0), (1, .ref b), (2, .int y2), (3, .int y3), (10, .int (nI j9))]) hx hb d_Sha_compress_312 hl (by decide) rfl (fun ls hl => ?_)
              refine lv_iload_n hx hb d_Sha_compress_314 rfl (lv_at hl 10 rfl) ?_
              refine lv_istore_n (lv' := [(3, .int y2), (4, .int y3), (5, .int y4), (6, .int v_56), (7, .int y6), (8, .int y7), (9, .int y8), (12, .int v_55), (11, .int v_38), (0, .ref s0), (1, .ref b), (2, .int y2), (10, .int (nI j9))]) hx hb d_Sha_compress_315 rfl hl (by decide) rfl (fun ls hl => ?_)
              refine lv_iload hx hb d_Sha_compress_316 (lv_at hl 8 rfl) ?_
              refine lv_iload hx hb d_Sha_compress_318 (lv_at hl 7 rfl) ?_
              refine lv_iadd hx hb d_Sha_compress_320 ?_
              refine lv_topi (fun v_57 _ => ?_)
              refine lv_istore_n (lv' := [(2, .int v_57), (3, .int y2), (4, .int y3), (5, .int y4), (6, .int v_56), (7, .int y6), (8, .int y7), (9, .int y8), (12, .int v_55), (11, .int v_38), (0, .ref s0), (1, .ref b), (10, .int (nI j9))]) hx hb d_Sha_compress_321 rfl hl (by decide) rfl (fun ls hl => ?_)
              refine lv_iinc (v := (nI (j9 + 1))) (lv' := [(10, .int (nI (j9 + 1))), (2, .int v_57), (3, .int y2), (4, .int y3), (5, .int y4), (6, .int v_56), (7, .int y6), (8, .int y7), (9, .int y8), (12, .int v_55), (11, .int v_38), (0, .ref s0), (1, .ref b)]) hx hb d_Sha_compress_322 hl (k := 12) rfl (k_inc _) (by decide) rfl (fun ls hl => ?_)
              refine lv_goto (tgt := 171) hx hb d_Sha_compress_325 (by decide) ?_
              exact ih171  (j9 + 1) v_57 y2 y3 y4 v_56 y6 y7 y8 _ _ _ (by omega) (by omega) (hP.sub [0, 1, 2] rfl) (hD.sub [0, 1, 2] (by decide) rfl) hS (lv_sub hl [11, 12, 1, 2, 3, 4, 5, 6, 7, 8, 0] rfl)
        exact lb_171 (64 - 0 + 1) 0 v_1 v_2 v_3 v_4 v_5 v_6 v_7 v_8 _ _ _ (Nat.zero_le _) (Nat.lt_succ_self _) (hP.sub [0, 1, 2] rfl) (hD.sub [0, 1, 2] (by decide) rfl) hS (lv_sub hl [9, 10, 8, 7, 6, 5, 4, 3, 2, 1, 0] rfl)
      · have c11 : ¬ (64 ≤ i9) := fun h => c11 ((nI_leI (by omega) (by omega)).mpr h)
        refine lv_aload_n hx hb d_Sha_compress_14 rfl (lv_at hl 1 rfl) ?_
        refine lv_iload_n hx hb d_Sha_compress_15 rfl (lv_at hl 2 rfl) ?_
        refine lv_bipush (v := (nI 15)) hx hb d_Sha_compress_16 (by decide +kernel) ?_
        refine lv_isub hx hb d_Sha_compress_18 ?_
        refine ki (v := nI (i9 - 15)) (pk_sub (by omega)) ?_
        refine kv_iald hx hb hK hP 2 1 rfl rfl (by omega) (by omega) d_Sha_compress_19 ?_
        refine lv_topi (fun v_58 _ => ?_)
        refine lv_istore_n (lv' := [(3, .int v_58), (0, .ref s0), (1, .ref b), (2, .int (nI i9))]) hx hb d_Sha_compress_20 rfl hl (by decide) rfl (fun ls hl => ?_)
        refine lv_aload_n hx hb d_Sha_compress_21 rfl (lv_at hl 2 rfl) ?_
        refine lv_iload_n hx hb d_Sha_compress_22 rfl (lv_at hl 3 rfl) ?_
        refine lv_iconst (v := (nI 2)) hx hb d_Sha_compress_23 (by decide +kernel) ?_
        refine lv_isub hx hb d_Sha_compress_24 ?_
        refine ki (v := nI (i9 - 2)) (pk_sub (by omega)) ?_
        refine kv_iald hx hb hK hP 2 1 rfl rfl (by omega) (by omega) d_Sha_compress_25 ?_
        refine lv_topi (fun v_59 _ => ?_)
        refine lv_istore (lv' := [(4, .int v_59), (3, .int v_58), (0, .ref s0), (1, .ref b), (2, .int (nI i9))]) hx hb d_Sha_compress_26 hl (by decide) rfl (fun ls hl => ?_)
        refine lv_aload_n hx hb d_Sha_compress_28 rfl (lv_at hl 3 rfl) ?_
        refine lv_iload_n hx hb d_Sha_compress_29 rfl (lv_at hl 4 rfl) ?_
        refine lv_aload_n hx hb d_Sha_compress_30 rfl (lv_at hl 3 rfl) ?_
        refine lv_iload_n hx hb d_Sha_compress_31 rfl (lv_at hl 4 rfl) ?_
        refine lv_bipush (v := (nI 16)) hx hb d_Sha_compress_32 (by decide +kernel) ?_
        refine lv_isub hx hb d_Sha_compress_34 ?_
        refine ki (v := nI (i9 - 16)) (pk_sub (by omega)) ?_
        refine kv_iald hx hb hK hP 2 1 rfl rfl (by omega) (by omega) d_Sha_compress_35 ?_
        refine lv_topi (fun v_60 _ => ?_)
        refine lv_iload_n hx hb d_Sha_compress_36 rfl (lv_at hl 1 rfl) ?_
        refine lv_bipush (v := (nI 7)) hx hb d_Sha_compress_37 (by decide +kernel) ?_
        refine lv_iushr hx hb d_Sha_compress_39 rfl ?_
        refine lv_topi (fun v_61 _ => ?_)
        refine lv_iload_n hx hb d_Sha_compress_40 rfl (lv_at hl 1 rfl) ?_
        refine lv_bipush (v := (nI 25)) hx hb d_Sha_compress_41 (by decide +kernel) ?_
        refine lv_ishl hx hb d_Sha_compress_43 ?_
        refine lv_topi (fun v_62 _ => ?_)
        refine lv_ior hx hb d_Sha_compress_44 ?_
        refine lv_topi (fun v_63 _ => ?_)
        refine lv_iload_n hx hb d_Sha_compress_45 rfl (lv_at hl 1 rfl) ?_
        refine lv_bipush (v := (nI 18)) hx hb d_Sha_compress_46 (by decide +kernel) ?_
        refine lv_iushr hx hb d_Sha_compress_48 rfl ?_
        refine lv_topi (fun v_64 _ => ?_)
        refine lv_iload_n hx hb d_Sha_compress_49 rfl (lv_at hl 1 rfl) ?_
        refine lv_bipush (v := (nI 14)) hx hb d_Sha_compress_50 (by decide +kernel) ?_
        refine lv_ishl hx hb d_Sha_compress_52 ?_
        refine lv_topi (fun v_65 _ => ?_)
        refine lv_ior hx hb d_Sha_compress_53 ?_
        refine lv_topi (fun v_66 _ => ?_)
        refine lv_ixor hx hb d_Sha_compress_54 ?_
        refine lv_topi (fun v_67 _ => ?_)
        refine lv_iload_n hx hb d_Sha_compress_55 rfl (lv_at hl 1 rfl) ?_
        refine lv_iconst (v := (nI 3)) hx hb d_Sha_compress_56 (by decide +kernel) ?_
        refine lv_iushr hx hb d_Sha_compress_57 rfl ?_
        refine lv_topi (fun v_68 _ => ?_)
        refine lv_ixor hx hb d_Sha_compress_58 ?_
        refine lv_topi (fun v_69 _ => ?_)
        refine lv_iadd hx hb d_Sha_compress_59 ?_
        refine lv_topi (fun v_70 _ => ?_)
        refine lv_aload_n hx hb d_Sha_compress_60 rfl (lv_at hl 3 rfl) ?_
        refine lv_iload_n hx hb d_Sha_compress_61 rfl (lv_at hl 4 rfl) ?_
        refine lv_bipush (v := (nI 7)) hx hb d_Sha_compress_62 (by decide +kernel) ?_
        refine lv_isub hx hb d_Sha_compress_64 ?_
        refine ki (v := nI (i9 - 7)) (pk_sub (by omega)) ?_
        refine kv_iald hx hb hK hP 2 1 rfl rfl (by omega) (by omega) d_Sha_compress_65 ?_
        refine lv_topi (fun v_71 _ => ?_)
        refine lv_iadd hx hb d_Sha_compress_66 ?_
        refine lv_topi (fun v_72 _ => ?_)
        refine lv_iload hx hb d_Sha_compress_67 (lv_at hl 0 rfl) ?_
        refine lv_bipush (v := (nI 17)) hx hb d_Sha_compress_69 (by decide +kernel) ?_
        refine lv_iushr hx hb d_Sha_compress_71 rfl ?_
        refine lv_topi (fun v_73 _ => ?_)
        refine lv_iload hx hb d_Sha_compress_72 (lv_at hl 0 rfl) ?_
        refine lv_bipush (v := (nI 15)) hx hb d_Sha_compress_74 (by decide +kernel) ?_
        refine lv_ishl hx hb d_Sha_compress_76 ?_
        refine lv_topi (fun v_74 _ => ?_)
        refine lv_ior hx hb d_Sha_compress_77 ?_
        refine lv_topi (fun v_75 _ => ?_)
        refine lv_iload hx hb d_Sha_compress_78 (lv_at hl 0 rfl) ?_
        refine lv_bipush (v := (nI 19)) hx hb d_Sha_compress_80 (by decide +kernel) ?_
        refine lv_iushr hx hb d_Sha_compress_82 rfl ?_
        refine lv_topi (fun v_76 _ => ?_)
        refine lv_iload hx hb d_Sha_compress_83 (lv_at hl 0 rfl) ?_
        refine lv_bipush (v := (nI 13)) hx hb d_Sha_compress_85 (by decide +kernel) ?_
        refine lv_ishl hx hb d_Sha_compress_87 ?_
        refine lv_topi (fun v_77 _ => ?_)
        refine lv_ior hx hb d_Sha_compress_88 ?_
        refine lv_topi (fun v_78 _ => ?_)
        refine lv_ixor hx hb d_Sha_compress_89 ?_
        refine lv_topi (fun v_79 _ => ?_)
        refine lv_iload hx hb d_Sha_compress_90 (lv_at hl 0 rfl) ?_
        refine lv_bipush (v := (nI 10)) hx hb d_Sha_compress_92 (by decide +kernel) ?_
        refine lv_iushr hx hb d_Sha_compress_94 rfl ?_
        refine lv_topi (fun v_80 _ => ?_)
        refine lv_ixor hx hb d_Sha_compress_95 ?_
        refine lv_topi (fun v_81 _ => ?_)
        refine lv_iadd hx hb d_Sha_compress_96 ?_
        refine lv_topi (fun v_82 _ => ?_)
        refine kv_iast hx hb hK hP hD hS 2 1 rfl rfl (by omega) (by omega) d_Sha_compress_97 (fun H locs g_83 _ hP hD hS => ?_)
        have hP : va_P (dC, dI) CL [(s0, .inr (10, [.ref a, .ref b, tk])), (a, .inl (ka, 8, .inl f)), (b, .inl (kb, 64, .inl g_83))] H := hP
        have hD : va_D A [(s0, .inr (10, [.ref a, .ref b, tk])), (a, .inl (ka, 8, .inl f)), (b, .inl (kb, 64, .inl g_83))] := hD
        refine lv_iinc (v := (nI (i9 + 1))) (lv' := [(2, .int (nI (i9 + 1))), (4, .int v_59), (3, .int v_58), (0, .ref s0), (1, .ref b)]) hx hb d_Sha_compress_98 hl (k := 4) rfl (k_inc _) (by decide) rfl (fun ls hl => ?_)
        refine lv_goto (tgt := 8) hx hb d_Sha_compress_101 (by decide) ?_
        exact ih8  (i9 + 1) g_83 _ _ _ (by omega) (by omega) (hP.sub [0, 1, 2] rfl) (hD.sub [0, 1, 2] (by decide) rfl) hS (lv_sub hl [3, 4, 0] rfl)
  exact lb_8 (64 - 16 + 1) 16 g _ _ _ (by decide) (Nat.lt_succ_self _) (hP.sub [0, 1, 2] rfl) (hD.sub [0, 1, 2] (by decide) rfl) hS (lv_sub hl [2, 1, 0] rfl)

-- ThresholdBench$Sha.takeByte
set_option maxHeartbeats 4000000 in
set_option maxRecDepth 100000 in
theorem c_Sha_takeByte (l : Launch) (dC : Nat → ClassId) (dI : Nat → Nat → Nat) (s0 : Nat) (a : Nat) (b : Nat) (ka : ClassId) (kb : ClassId) (f : Nat → Int32) (g : Nat → Int32) (tk : Nat) (x : Int32) (sz : Nat) (htk : tk < 1000) : Met l y_Sha_takeByte (.code y_Sha_takeByte prog_9_method_3_code 3 (none) :: AW) ({ frames := 2, cells := 0, slots := 0, locals := 57 } : Room) (va_Pc [.ref s0, .int x] (pw (dC, dI) CL [(s0, .inr (10, [.ref a, .ref b, .int (nI tk)])), (a, .inl (ka, 8, .inl f)), (b, .inl (kb, 64, .inl g))] [(ka, .int), (kb, .int)] sz)) (va_Qv (fun u : (Nat → Int32) × (Nat → Int32) => True) (fun (u : (Nat → Int32) × (Nat → Int32)) t => qw (dC, dI) CL (va_A [(s0, .inr (10, [.ref a, .ref b, .int (nI tk)])), (a, .inl (ka, 8, .inl f)), (b, .inl (kb, 64, .inl g))] sz) ((fun u : (Nat → Int32) × (Nat → Int32) => [(s0, .inr (10, [.ref a, .ref b, .int (nI (tk + 1))])), (a, .inl (ka, 8, .inl u.1)), (b, .inl (kb, 64, .inl u.2))]) u) ((fun u : (Nat → Int32) × (Nat → Int32) => []) u) t) (va_A [(s0, .inr (10, [.ref a, .ref b, .int (nI tk)])), (a, .inl (ka, 8, .inl f)), (b, .inl (kb, 64, .inl g))] sz)) 0 0 (va_A [(s0, .inr (10, [.ref a, .ref b, .int (nI tk)])), (a, .inl (ka, 8, .inl f)), (b, .inl (kb, 64, .inl g))] sz) := by
  refine Met.ofW (cc := prog_9_method_3_code) (maxL := 3) (ret := none) (by decide) rfl ?_
  intro p e s m args below meth c s₁ B hml hv
  obtain ⟨rfl, hsz, hP, hK, hD0, hZ, hN⟩ := hv
  have hx := B.exec
  have hb := B.bytes
  have hr := B.returns
  have hts := kw (atoms_spec (ws := .code y_Sha_takeByte prog_9_method_3_code 3 (none) :: AW) B.pre)
  have hown : s.vm.findClass R_Sha = some m.cls := findClass_of_methodNamed B.named
  have hlocks := B.notSynchronized
  subst hsz
  have hD := hD0.self (sz := s.heap.size)
  obtain ⟨Qg, hQg⟩ : ∃ q, q = MQ below (va_Qv (fun u : (Nat → Int32) × (Nat → Int32) => True) (fun (u : (Nat → Int32) × (Nat → Int32)) t => qw (dC, dI) CL (va_A [(s0, .inr (10, [.ref a, .ref b, .int (nI tk)])), (a, .inl (ka, 8, .inl f)), (b, .inl (kb, 64, .inl g))] s.heap.size) ((fun u : (Nat → Int32) × (Nat → Int32) => [(s0, .inr (10, [.ref a, .ref b, .int (nI (tk + 1))])), (a, .inl (ka, 8, .inl u.1)), (b, .inl (kb, 64, .inl u.2))]) u) ((fun u : (Nat → Int32) × (Nat → Int32) => []) u) t) (va_A [(s0, .inr (10, [.ref a, .ref b, .int (nI tk)])), (a, .inl (ka, 8, .inl f)), (b, .inl (kb, 64, .inl g))] s.heap.size)) ([.ref s0, .int x] : List Value).toArray s 0 0 (va_A [(s0, .inr (10, [.ref a, .ref b, .int (nI tk)])), (a, .inl (ka, 8, .inl f)), (b, .inl (kb, 64, .inl g))] s.heap.size) := ⟨_, rfl⟩
  rw [← hQg]
  generalize hAe : va_A [(s0, .inr (10, [.ref a, .ref b, .int (nI tk)])), (a, .inl (ka, 8, .inl f)), (b, .inl (kb, 64, .inl g))] s.heap.size = A at hD hZ hQg
  have hA : ∀ q : Nat, s.heap.size ≤ q → A q := fun q h => by rw [← hAe]; exact Or.inr h
  have hS : va_S A s.heap s.heap [] := va_S.rf
  have hP : va_P (dC, dI) CL [(s0, .inr (10, [.ref a, .ref b, .int (nI tk)])), (a, .inl (ka, 8, .inl f)), (b, .inl (kb, 64, .inl g))] s.heap := hP
  have hl := lv_entry ([.ref s0, .int x]) (n := 3) (Nat.le_of_ble_eq_true rfl)
  rw [lg_entry_eq]
  generalize (lg_sl ([.ref s0, .int x]) ++ List.replicate (3 - (lg_sl ([.ref s0, .int x])).length) Slot.unset).toArray = ls at hl ⊢
  have hl : lv_has ls 3 [(0, .ref s0), (1, .int x)] := hl
  show W p l e ({ frames := 2, cells := 0, slots := 0, locals := 57 } : Room) s m ([.ref s0, .int x] : List Value).toArray below meth c s.heap [] 0 0 Qg (F0 m 0 ls [])
  refine lv_aload_n hx hb d_Sha_takeByte_0 rfl (lv_at hl 0 rfl) ?_
  refine va_get (D := (dC, dI)) (ci := 10) (v := .int (nI tk)) (C := R_Sha) (T := F_Sha) (N := 3) hx hb hts i_Sha hown hK hP 0 rfl rfl 2 (by decide) (hts _ m_208) (fun _ h9 => h9) rfl d_Sha_takeByte_1 ?_
  refine lv_bipush (v := (nI 63)) hx hb d_Sha_takeByte_4 (by decide +kernel) ?_
  refine lv_iand hx hb d_Sha_takeByte_6 ?_
  refine ki (v := nI (tk % 64)) (pk_andN (by omega) 6 (by decide)) ?_
  refine lv_istore_n (lv' := [(2, .int (nI (tk % 64))), (0, .ref s0), (1, .int x)]) hx hb d_Sha_takeByte_7 rfl hl (by decide) rfl (fun ls hl => ?_)
  refine lv_aload_n hx hb d_Sha_takeByte_8 rfl (lv_at hl 1 rfl) ?_
  refine va_get (D := (dC, dI)) (ci := 10) (v := .ref b) (C := R_Sha) (T := F_Sha) (N := 3) hx hb hts i_Sha hown hK hP 0 rfl rfl 1 (by decide) (hts _ m_51) (fun _ h9 => h9) rfl d_Sha_takeByte_9 ?_
  refine lv_iload_n hx hb d_Sha_takeByte_12 rfl (lv_at hl 0 rfl) ?_
  refine lv_iconst (v := (nI 2)) hx hb d_Sha_takeByte_13 (by decide +kernel) ?_
  refine lv_ishr hx hb d_Sha_takeByte_14 ?_
  refine ki (v := nI ((tk % 64) / 4)) (pk_shrN (by omega) _ 2 (by decide)) ?_
  refine lv_dup2_11 hx hb d_Sha_takeByte_15 rfl rfl ?_
  refine kv_iald hx hb hK hP 2 1 rfl rfl (by omega) (by omega) d_Sha_takeByte_16 ?_
  refine lv_topi (fun v_1 _ => ?_)
  refine lv_iload_n hx hb d_Sha_takeByte_17 rfl (lv_at hl 2 rfl) ?_
  refine lv_sipush (v := (nI 255)) hx hb d_Sha_takeByte_18 (by decide +kernel) ?_
  refine lv_iand hx hb d_Sha_takeByte_21 ?_
  refine lv_topi (fun v_2 _ => ?_)
  refine lv_bipush (v := (nI 24)) hx hb d_Sha_takeByte_22 (by decide +kernel) ?_
  refine lv_bipush (v := (nI 8)) hx hb d_Sha_takeByte_24 (by decide +kernel) ?_
  refine lv_iload_n hx hb d_Sha_takeByte_26 rfl (lv_at hl 0 rfl) ?_
  refine lv_iconst (v := (nI 3)) hx hb d_Sha_takeByte_27 (by decide +kernel) ?_
  refine lv_iand hx hb d_Sha_takeByte_28 ?_
  refine ki (v := nI ((tk % 64) % 4)) (pk_andN (by omega) 2 (by decide)) ?_
  refine lv_imul hx hb d_Sha_takeByte_29 ?_
  refine ki (v := nI (8 * ((tk % 64) % 4))) (k_mul 8 ((tk % 64) % 4) rfl) ?_
  refine lv_isub hx hb d_Sha_takeByte_30 ?_
  refine ki (v := nI (24 - (8 * ((tk % 64) % 4)))) (pk_sub (by omega)) ?_
  refine lv_ishl hx hb d_Sha_takeByte_31 ?_
  refine lv_topi (fun v_3 _ => ?_)
  refine lv_ior hx hb d_Sha_takeByte_32 ?_
  refine lv_topi (fun v_4 _ => ?_)
  refine kv_iast hx hb hK hP hD hS 2 1 rfl rfl (by omega) (by omega) d_Sha_takeByte_33 (fun H locs g_5 _ hP hD hS => ?_)
  have hP : va_P (dC, dI) CL [(s0, .inr (10, [.ref a, .ref b, .int (nI tk)])), (a, .inl (ka, 8, .inl f)), (b, .inl (kb, 64, .inl g_5))] H := hP
  have hD : va_D A [(s0, .inr (10, [.ref a, .ref b, .int (nI tk)])), (a, .inl (ka, 8, .inl f)), (b, .inl (kb, 64, .inl g_5))] := hD
  refine lv_aload_n hx hb d_Sha_takeByte_34 rfl (lv_at hl 1 rfl) ?_
  refine lv_dup hx hb d_Sha_takeByte_35 rfl ?_
  refine va_get (D := (dC, dI)) (ci := 10) (v := .int (nI tk)) (C := R_Sha) (T := F_Sha) (N := 3) hx hb hts i_Sha hown hK hP 0 rfl rfl 2 (by decide) (hts _ m_208) (fun _ h9 => h9) rfl d_Sha_takeByte_36 ?_
  refine lv_iconst (v := (nI 1)) hx hb d_Sha_takeByte_39 (by decide +kernel) ?_
  refine lv_iadd hx hb d_Sha_takeByte_40 ?_
  refine ki (v := nI (tk + 1)) (k_add tk 1 rfl) ?_
  refine va_put (D := (dC, dI)) (ci := 10) (v := .int (nI (tk + 1))) (ty := .int) (C := R_Sha) (T := F_Sha) (N := 3) hx hb hts i_Sha t_Sha t_Sha_ok n_Sha hown hK hP hD hS 0 rfl rfl 2 (by decide) (hts _ m_208) (fun _ h9 => h9) rfl (by decide +kernel) rfl rfl (Nat.le_of_ble_eq_true rfl) d_Sha_takeByte_41 (fun H locs hP hD hS => ?_)
  have hP : va_P (dC, dI) CL [(s0, .inr (10, [.ref a, .ref b, .int (nI (tk + 1))])), (a, .inl (ka, 8, .inl f)), (b, .inl (kb, 64, .inl g_5))] H := hP
  have hD : va_D A [(s0, .inr (10, [.ref a, .ref b, .int (nI (tk + 1))])), (a, .inl (ka, 8, .inl f)), (b, .inl (kb, 64, .inl g_5))] := hD
  refine lv_iload_n hx hb d_Sha_takeByte_44 rfl (lv_at hl 0 rfl) ?_
  refine lv_bipush (v := (nI 63)) hx hb d_Sha_takeByte_45 (by decide +kernel) ?_
  refine lv_icmp_ne (tgt := 54) hx hb d_Sha_takeByte_47 (by decide) (fun c47 => ?_) (fun c47 => ?_)
  · have c47 : ¬ ((tk % 64) = 63) := fun h => c47 ((nI_eq (by omega) (by omega)).mpr h)
    have hP9 := hP.sub (ws' := [(s0, .inr (10, [.ref a, .ref b, .int (nI (tk + 1))])), (a, .inl (ka, 8, .inl f)), (b, .inl (kb, 64, .inl g_5))]) [0, 1, 2] rfl
    have hD9 := hD.sub (ws' := [(s0, .inr (10, [.ref a, .ref b, .int (nI (tk + 1))])), (a, .inl (ka, 8, .inl f)), (b, .inl (kb, 64, .inl g_5))]) [0, 1, 2] (by decide) rfl
    have hK9 := hK.sub (tys' := []) [] rfl
    rw [hQg]
    exact W.vret hx hb hr (fun t ht hW => ⟨⟨(f, g_5), rfl, trivial, by rw [ht]; exact hP9, va_K.moved hW.alike hK9, hD9⟩, hS.F ht⟩) hS.2.2 d_Sha_takeByte_54
  · have c47 : (tk % 64) = 63 := (nI_eq (by omega) (by omega)).mp c47
    refine lv_aload_n hx hb d_Sha_takeByte_50 rfl (lv_at hl 1 rfl) ?_
    refine k_finv (wr := []) [0, 1, 2] [] (k_runV (n := 0) (As := []) (rest := []) (wc := [(s0, .inr (10, [.ref a, .ref b, .int (nI (tk + 1))])), (a, .inl (ka, 8, .inl f)), (b, .inl (kb, 64, .inl g_5))]) ⟨hx, hb, hml, hown, hts⟩ (c_Sha_compress l dC dI s0 a b ka kb f g_5 (.int (nI (tk + 1))) _ ) (kg_V m_210 m_211 m_212 m_55 (kg_code m_209)) (by decide +kernel) rfl rfl ⟨Nat.le_of_ble_eq_true rfl, Nat.le_of_ble_eq_true rfl⟩ [0, 1, 2] [0, 1] hP hD hK hS hA hZ hN (by rfl) (by decide) (by rfl) rfl rfl rfl rfl hl.1 rfl (Nat.le_of_ble_eq_true rfl) d_Sha_takeByte_51 ⟨(Nat.le_of_ble_eq_true rfl), (Nat.le_of_ble_eq_true rfl)⟩) hP hD hK hS hA (by rfl) (by rfl) (by decide) (by decide) (fun u9 H locs hw_9 hP hD hK hS => ?_)
    obtain ⟨f_6, g_7⟩ := u9
    try dsimp only at hw_9
    have hP : va_P (dC, dI) CL [(s0, .inr (10, [.ref a, .ref b, .int (nI (tk + 1))])), (a, .inl (ka, 8, .inl f_6)), (b, .inl (kb, 64, .inl g_7))] H := hP
    have hD : va_D A [(s0, .inr (10, [.ref a, .ref b, .int (nI (tk + 1))])), (a, .inl (ka, 8, .inl f_6)), (b, .inl (kb, 64, .inl g_7))] := hD
    have hK : va_K (dC, dI) CL [(ka, .int), (kb, .int)] s := hK
    have hP9 := hP.sub (ws' := [(s0, .inr (10, [.ref a, .ref b, .int (nI (tk + 1))])), (a, .inl (ka, 8, .inl f_6)), (b, .inl (kb, 64, .inl g_7))]) [0, 1, 2] rfl
    have hD9 := hD.sub (ws' := [(s0, .inr (10, [.ref a, .ref b, .int (nI (tk + 1))])), (a, .inl (ka, 8, .inl f_6)), (b, .inl (kb, 64, .inl g_7))]) [0, 1, 2] (by decide) rfl
    have hK9 := hK.sub (tys' := []) [] rfl
    rw [hQg]
    exact W.vret hx hb hr (fun t ht hW => ⟨⟨(f_6, g_7), rfl, trivial, by rw [ht]; exact hP9, va_K.moved hW.alike hK9, hD9⟩, hS.F ht⟩) hS.2.2 d_Sha_takeByte_54

-- ThresholdBench$Sha.begin
set_option maxHeartbeats 4000000 in
set_option maxRecDepth 100000 in
theorem c_Sha_begin (l : Launch) (dC : Nat → ClassId) (dI : Nat → Nat → Nat) (s0 : Nat) (a : Nat) (b : Nat) (ka : ClassId) (kb : ClassId) (f : Nat → Int32) (g : Nat → Int32) (tk : Int32) (sz : Nat)  : Met l y_Sha_begin (.code y_Sha_begin prog_9_method_2_code 1 (none) :: AW) ({ frames := 1, cells := 0, slots := 0, locals := 40 } : Room) (va_Pc [.ref s0] (pw (dC, dI) CL [(s0, .inr (10, [.ref a, .ref b, .int tk])), (a, .inl (ka, 8, .inl f)), (b, .inl (kb, 64, .inl g))] [(ka, .int), (kb, .int)] sz)) (va_Qv (fun u : (Nat → Int32) × (Nat → Int32) => True) (fun (u : (Nat → Int32) × (Nat → Int32)) t => qw (dC, dI) CL (va_A [(s0, .inr (10, [.ref a, .ref b, .int tk])), (a, .inl (ka, 8, .inl f)), (b, .inl (kb, 64, .inl g))] sz) ((fun u : (Nat → Int32) × (Nat → Int32) => [(s0, .inr (10, [.ref a, .ref b, .int (nI 0)])), (a, .inl (ka, 8, .inl u.1)), (b, .inl (kb, 64, .inl u.2))]) u) ((fun u : (Nat → Int32) × (Nat → Int32) => []) u) t) (va_A [(s0, .inr (10, [.ref a, .ref b, .int tk])), (a, .inl (ka, 8, .inl f)), (b, .inl (kb, 64, .inl g))] sz)) 0 0 (va_A [(s0, .inr (10, [.ref a, .ref b, .int tk])), (a, .inl (ka, 8, .inl f)), (b, .inl (kb, 64, .inl g))] sz) := by
  refine Met.ofW (cc := prog_9_method_2_code) (maxL := 1) (ret := none) (by decide) rfl ?_
  intro p e s m args below meth c s₁ B hml hv
  obtain ⟨rfl, hsz, hP, hK, hD0, hZ, hN⟩ := hv
  have hx := B.exec
  have hb := B.bytes
  have hr := B.returns
  have hts := kw (atoms_spec (ws := .code y_Sha_begin prog_9_method_2_code 1 (none) :: AW) B.pre)
  have hown : s.vm.findClass R_Sha = some m.cls := findClass_of_methodNamed B.named
  have hlocks := B.notSynchronized
  subst hsz
  have hD := hD0.self (sz := s.heap.size)
  obtain ⟨Qg, hQg⟩ : ∃ q, q = MQ below (va_Qv (fun u : (Nat → Int32) × (Nat → Int32) => True) (fun (u : (Nat → Int32) × (Nat → Int32)) t => qw (dC, dI) CL (va_A [(s0, .inr (10, [.ref a, .ref b, .int tk])), (a, .inl (ka, 8, .inl f)), (b, .inl (kb, 64, .inl g))] s.heap.size) ((fun u : (Nat → Int32) × (Nat → Int32) => [(s0, .inr (10, [.ref a, .ref b, .int (nI 0)])), (a, .inl (ka, 8, .inl u.1)), (b, .inl (kb, 64, .inl u.2))]) u) ((fun u : (Nat → Int32) × (Nat → Int32) => []) u) t) (va_A [(s0, .inr (10, [.ref a, .ref b, .int tk])), (a, .inl (ka, 8, .inl f)), (b, .inl (kb, 64, .inl g))] s.heap.size)) ([.ref s0] : List Value).toArray s 0 0 (va_A [(s0, .inr (10, [.ref a, .ref b, .int tk])), (a, .inl (ka, 8, .inl f)), (b, .inl (kb, 64, .inl g))] s.heap.size) := ⟨_, rfl⟩
  rw [← hQg]
  generalize hAe : va_A [(s0, .inr (10, [.ref a, .ref b, .int tk])), (a, .inl (ka, 8, .inl f)), (b, .inl (kb, 64, .inl g))] s.heap.size = A at hD hZ hQg
  have hA : ∀ q : Nat, s.heap.size ≤ q → A q := fun q h => by rw [← hAe]; exact Or.inr h
  have hS : va_S A s.heap s.heap [] := va_S.rf
  have hP : va_P (dC, dI) CL [(s0, .inr (10, [.ref a, .ref b, .int tk])), (a, .inl (ka, 8, .inl f)), (b, .inl (kb, 64, .inl g))] s.heap := hP
  have hl := lv_entry ([.ref s0]) (n := 1) (Nat.le_of_ble_eq_true rfl)
  rw [lg_entry_eq]
  generalize (lg_sl ([.ref s0]) ++ List.replicate (1 - (lg_sl ([.ref s0])).length) Slot.unset).toArray = ls at hl ⊢
  have hl : lv_has ls 1 [(0, .ref s0)] := hl
  show W p l e ({ frames := 1, cells := 0, slots := 0, locals := 40 } : Room) s m ([.ref s0] : List Value).toArray below meth c s.heap [] 0 0 Qg (F0 m 0 ls [])
  obtain ⟨hZ1, hZ2, ⟨tS, fS, hZS, hTS⟩, ⟨tR, fR, hZR, hTR⟩⟩ := id hZ
  refine va_gets hx hb hZS hS hown (hts _ m_213) (fun _ h9 => h9) d_Sha_begin_0 ?_
  refine lv_iconst (v := (nI 0)) hx hb d_Sha_begin_3 (by decide +kernel) ?_
  refine lv_aload_n hx hb d_Sha_begin_4 rfl (lv_at hl 0 rfl) ?_
  refine va_get (D := (dC, dI)) (ci := 10) (v := .ref a) (C := R_Sha) (T := F_Sha) (N := 3) hx hb hts i_Sha hown hK hP 0 rfl rfl 0 (by decide) (hts _ m_50) (fun _ h9 => h9) rfl d_Sha_begin_5 ?_
  refine lv_iconst (v := (nI 0)) hx hb d_Sha_begin_8 (by decide +kernel) ?_
  refine lv_bipush (v := (nI 8)) hx hb d_Sha_begin_9 (by decide +kernel) ?_
  refine kv_copyT hx hb (by rw [hml]; exact hl.1.symm) hown (hts _ m_214) (hts _ m_215) (hts _ m_216) (hts _ m_217) hK hP hD hS hTS 1 0 rfl rfl (by decide) (by decide) (by decide) (by decide) (by decide) (Nat.le_of_ble_eq_true rfl) (Nat.le_of_ble_eq_true rfl) d_Sha_begin_11 (fun H locs g_1 hP hD hS => ?_)
  have hP : va_P (dC, dI) CL [(s0, .inr (10, [.ref a, .ref b, .int tk])), (a, .inl (ka, 8, .inl g_1)), (b, .inl (kb, 64, .inl g))] H := hP
  have hD : va_D A [(s0, .inr (10, [.ref a, .ref b, .int tk])), (a, .inl (ka, 8, .inl g_1)), (b, .inl (kb, 64, .inl g))] := hD
  refine lv_aload_n hx hb d_Sha_begin_14 rfl (lv_at hl 0 rfl) ?_
  refine va_get (D := (dC, dI)) (ci := 10) (v := .ref b) (C := R_Sha) (T := F_Sha) (N := 3) hx hb hts i_Sha hown hK hP 0 rfl rfl 1 (by decide) (hts _ m_51) (fun _ h9 => h9) rfl d_Sha_begin_15 ?_
  refine lv_iconst (v := (nI 0)) hx hb d_Sha_begin_18 (by decide +kernel) ?_
  refine k_finv (wr := [(s0, .inr (10, [.ref a, .ref b, .int tk])), (a, .inl (ka, 8, .inl g_1))]) [2] [0, 1] (k_runS (n := 2) (As := [.ref b, .int (nI 0)]) (rest := []) (wc := [(b, .inl (kb, 64, .inl g))]) ⟨hx, hb, hml, hown, hts⟩ (c_Arr_fill l dC dI b kb 64 g (nI 0) _ (by decide)) (kg_S m_204 m_205 m_206 (kg_code m_203)) (by decide +kernel) rfl rfl ⟨Nat.le_of_ble_eq_true rfl, Nat.le_of_ble_eq_true rfl⟩ [2] [1] hP hD hK hS hA hZ hN (by rfl) (by decide) (by rfl) rfl hl.1 rfl (Nat.le_of_ble_eq_true rfl) d_Sha_begin_19 ⟨(Nat.le_of_ble_eq_true rfl), (Nat.le_of_ble_eq_true rfl)⟩) hP hD hK hS hA (by rfl) (by rfl) (by decide) (by decide) (fun u9 H locs hw_4 hP hD hK hS => ?_)
  obtain ⟨g_2, rfl⟩ : ∃ z, z = u9 := ⟨_, rfl⟩
  try dsimp only at hw_4
  have hP : va_P (dC, dI) CL [(s0, .inr (10, [.ref a, .ref b, .int tk])), (a, .inl (ka, 8, .inl g_1)), (b, .inl (kb, 64, .inl g_2))] H := hP
  have hD : va_D A [(s0, .inr (10, [.ref a, .ref b, .int tk])), (a, .inl (ka, 8, .inl g_1)), (b, .inl (kb, 64, .inl g_2))] := hD
  have hK : va_K (dC, dI) CL [(ka, .int), (kb, .int)] s := hK
  refine lv_aload_n hx hb d_Sha_begin_22 rfl (lv_at hl 0 rfl) ?_
  refine lv_iconst (v := (nI 0)) hx hb d_Sha_begin_23 (by decide +kernel) ?_
  refine va_put (D := (dC, dI)) (ci := 10) (v := .int (nI 0)) (ty := .int) (C := R_Sha) (T := F_Sha) (N := 3) hx hb hts i_Sha t_Sha t_Sha_ok n_Sha hown hK hP hD hS 0 rfl rfl 2 (by decide) (hts _ m_208) (fun _ h9 => h9) rfl (by decide +kernel) rfl rfl (Nat.le_of_ble_eq_true rfl) d_Sha_begin_24 (fun H locs hP hD hS => ?_)
  have hP : va_P (dC, dI) CL [(s0, .inr (10, [.ref a, .ref b, .int (nI 0)])), (a, .inl (ka, 8, .inl g_1)), (b, .inl (kb, 64, .inl g_2))] H := hP
  have hD : va_D A [(s0, .inr (10, [.ref a, .ref b, .int (nI 0)])), (a, .inl (ka, 8, .inl g_1)), (b, .inl (kb, 64, .inl g_2))] := hD
  have hP9 := hP.sub (ws' := [(s0, .inr (10, [.ref a, .ref b, .int (nI 0)])), (a, .inl (ka, 8, .inl g_1)), (b, .inl (kb, 64, .inl g_2))]) [0, 1, 2] rfl
  have hD9 := hD.sub (ws' := [(s0, .inr (10, [.ref a, .ref b, .int (nI 0)])), (a, .inl (ka, 8, .inl g_1)), (b, .inl (kb, 64, .inl g_2))]) [0, 1, 2] (by decide) rfl
  have hK9 := hK.sub (tys' := []) [] rfl
  rw [hQg]
  exact W.vret hx hb hr (fun t ht hW => ⟨⟨(g_1, g_2), rfl, trivial, by rw [ht]; exact hP9, va_K.moved hW.alike hK9, hD9⟩, hS.F ht⟩) hS.2.2 d_Sha_begin_27

-- ThresholdBench$Sha.takeRow
set_option maxHeartbeats 4000000 in
set_option maxRecDepth 100000 in
theorem c_Sha_takeRow (l : Launch) (dC : Nat → ClassId) (dI : Nat → Nat → Nat) (s0 : Nat) (a : Nat) (b : Nat) (ka : ClassId) (kb : ClassId) (f : Nat → Int32) (g : Nat → Int32) (tk : Value) (r0 : Nat) (v0 : Value) (sz : Nat)  : Met l y_Sha_takeRow (.code y_Sha_takeRow prog_9_method_4_code 3 (none) :: AW) ({ frames := 0, cells := 0, slots := 0, locals := 0 } : Room) (va_Pc [.ref s0, .ref r0] (pw (dC, dI) CL [(s0, .inr (10, [.ref a, .ref b, tk])), (a, .inl (ka, 8, .inl f)), (b, .inl (kb, 64, .inl g)), (r0, .inr (1, [v0, .int (nI 0)]))] [(ka, .int), (kb, .int)] sz)) (va_Qv (fun u : Unit => True) (fun (u : Unit) t => qw (dC, dI) CL (va_A [(s0, .inr (10, [.ref a, .ref b, tk])), (a, .inl (ka, 8, .inl f)), (b, .inl (kb, 64, .inl g)), (r0, .inr (1, [v0, .int (nI 0)]))] sz) ((fun _ : Unit => [(s0, .inr (10, [.ref a, .ref b, tk])), (a, .inl (ka, 8, .inl f)), (b, .inl (kb, 64, .inl g)), (r0, .inr (1, [v0, .int (nI 0)]))]) u) ((fun _ : Unit => []) u) t) (va_A [(s0, .inr (10, [.ref a, .ref b, tk])), (a, .inl (ka, 8, .inl f)), (b, .inl (kb, 64, .inl g)), (r0, .inr (1, [v0, .int (nI 0)]))] sz)) 0 0 (va_A [(s0, .inr (10, [.ref a, .ref b, tk])), (a, .inl (ka, 8, .inl f)), (b, .inl (kb, 64, .inl g)), (r0, .inr (1, [v0, .int (nI 0)]))] sz) := by
  refine Met.ofW (cc := prog_9_method_4_code) (maxL := 3) (ret := none) (by decide) rfl ?_
  intro p e s m args below meth c s₁ B hml hv
  obtain ⟨rfl, hsz, hP, hK, hD0, hZ, hN⟩ := hv
  have hx := B.exec
  have hb := B.bytes
  have hr := B.returns
  have hts := kw (atoms_spec (ws := .code y_Sha_takeRow prog_9_method_4_code 3 (none) :: AW) B.pre)
  have hown : s.vm.findClass R_Sha = some m.cls := findClass_of_methodNamed B.named
  have hlocks := B.notSynchronized
  subst hsz
  have hD := hD0.self (sz := s.heap.size)
  obtain ⟨Qg, hQg⟩ : ∃ q, q = MQ below (va_Qv (fun u : Unit => True) (fun (u : Unit) t => qw (dC, dI) CL (va_A [(s0, .inr (10, [.ref a, .ref b, tk])), (a, .inl (ka, 8, .inl f)), (b, .inl (kb, 64, .inl g)), (r0, .inr (1, [v0, .int (nI 0)]))] s.heap.size) ((fun _ : Unit => [(s0, .inr (10, [.ref a, .ref b, tk])), (a, .inl (ka, 8, .inl f)), (b, .inl (kb, 64, .inl g)), (r0, .inr (1, [v0, .int (nI 0)]))]) u) ((fun _ : Unit => []) u) t) (va_A [(s0, .inr (10, [.ref a, .ref b, tk])), (a, .inl (ka, 8, .inl f)), (b, .inl (kb, 64, .inl g)), (r0, .inr (1, [v0, .int (nI 0)]))] s.heap.size)) ([.ref s0, .ref r0] : List Value).toArray s 0 0 (va_A [(s0, .inr (10, [.ref a, .ref b, tk])), (a, .inl (ka, 8, .inl f)), (b, .inl (kb, 64, .inl g)), (r0, .inr (1, [v0, .int (nI 0)]))] s.heap.size) := ⟨_, rfl⟩
  rw [← hQg]
  generalize hAe : va_A [(s0, .inr (10, [.ref a, .ref b, tk])), (a, .inl (ka, 8, .inl f)), (b, .inl (kb, 64, .inl g)), (r0, .inr (1, [v0, .int (nI 0)]))] s.heap.size = A at hD hZ hQg
  have hA : ∀ q : Nat, s.heap.size ≤ q → A q := fun q h => by rw [← hAe]; exact Or.inr h
  have hS : va_S A s.heap s.heap [] := va_S.rf
  have hP : va_P (dC, dI) CL [(s0, .inr (10, [.ref a, .ref b, tk])), (a, .inl (ka, 8, .inl f)), (b, .inl (kb, 64, .inl g)), (r0, .inr (1, [v0, .int (nI 0)]))] s.heap := hP
  have hl := lv_entry ([.ref s0, .ref r0]) (n := 3) (Nat.le_of_ble_eq_true rfl)
  rw [lg_entry_eq]
  generalize (lg_sl ([.ref s0, .ref r0]) ++ List.replicate (3 - (lg_sl ([.ref s0, .ref r0])).length) Slot.unset).toArray = ls at hl ⊢
  have hl : lv_has ls 3 [(0, .ref s0), (1, .ref r0)] := hl
  show W p l e ({ frames := 0, cells := 0, slots := 0, locals := 0 } : Room) s m ([.ref s0, .ref r0] : List Value).toArray below meth c s.heap [] 0 0 Qg (F0 m 0 ls [])
  refine lv_iconst (v := (nI 0)) hx hb d_Sha_takeRow_0 (by decide +kernel) ?_
  refine lv_istore_n (lv' := [(2, .int (nI 0)), (0, .ref s0), (1, .ref r0)]) hx hb d_Sha_takeRow_1 rfl hl (by decide) rfl (fun ls hl => ?_)
  refine lv_iload_n hx hb d_Sha_takeRow_2 rfl (lv_at hl 0 rfl) ?_
  refine lv_aload_n hx hb d_Sha_takeRow_3 rfl (lv_at hl 2 rfl) ?_
  refine va_get (D := (dC, dI)) (ci := 1) (v := .int (nI 0)) (C := R_Row) (T := F_Row) (N := 2) hx hb hts i_Row hown hK hP 3 rfl rfl 1 (by decide) (hts _ m_218) (fun _ h9 => h9) rfl d_Sha_takeRow_4 ?_
  refine lv_icmp_ge (tgt := 26) hx hb d_Sha_takeRow_7 (by decide) (fun c7 => ?_) (fun c7 => absurd (by decide) c7)
  have hP9 := hP.sub (ws' := [(s0, .inr (10, [.ref a, .ref b, tk])), (a, .inl (ka, 8, .inl f)), (b, .inl (kb, 64, .inl g)), (r0, .inr (1, [v0, .int (nI 0)]))]) [0, 1, 2, 3] rfl
  have hD9 := hD.sub (ws' := [(s0, .inr (10, [.ref a, .ref b, tk])), (a, .inl (ka, 8, .inl f)), (b, .inl (kb, 64, .inl g)), (r0, .inr (1, [v0, .int (nI 0)]))]) [0, 1, 2, 3] (by decide) rfl
  have hK9 := hK.sub (tys' := []) [] rfl
  rw [hQg]
  exact W.vret hx hb hr (fun t ht hW => ⟨⟨(), rfl, trivial, by rw [ht]; exact hP9, va_K.moved hW.alike hK9, hD9⟩, hS.F ht⟩) hS.2.2 d_Sha_takeRow_26

-- ThresholdBench$Sha.end
set_option maxHeartbeats 4000000 in
set_option maxRecDepth 100000 in
theorem c_Sha_end (l : Launch) (dC : Nat → ClassId) (dI : Nat → Nat → Nat) (s0 : Nat) (a : Nat) (b : Nat) (ka : ClassId) (kb : ClassId) (f : Nat → Int32) (g : Nat → Int32) (r0 : Nat) (rb : Nat) (kr : ClassId) (h : Nat → Int32) (sz : Nat)  : Met l y_Sha_end (.code y_Sha_end prog_9_method_7_code 6 (none) :: AW) ({ frames := 3, cells := 0, slots := 0, locals := 79 } : Room) (va_Pc [.ref s0, .ref r0] (pw (dC, dI) CL [(s0, .inr (10, [.ref a, .ref b, .int (nI 0)])), (a, .inl (ka, 8, .inl f)), (b, .inl (kb, 64, .inl g)), (r0, .inr (1, [.ref rb, .int (nI 0)])), (rb, .inl (kr, 66, .inl h))] [(ka, .int), (kb, .int), (kr, .byte)] sz)) (va_Qv (fun u : (Nat → Int32) × (Nat → Int32) × (Nat → Int32) => True) (fun (u : (Nat → Int32) × (Nat → Int32) × (Nat → Int32)) t => qw (dC, dI) CL (va_A [(s0, .inr (10, [.ref a, .ref b, .int (nI 0)])), (a, .inl (ka, 8, .inl f)), (b, .inl (kb, 64, .inl g)), (r0, .inr (1, [.ref rb, .int (nI 0)])), (rb, .inl (kr, 66, .inl h))] sz) ((fun u : (Nat → Int32) × (Nat → Int32) × (Nat → Int32) => [(s0, .inr (10, [.ref a, .ref b, .int (nI 64)])), (a, .inl (ka, 8, .inl u.1)), (b, .inl (kb, 64, .inl u.2.1)), (r0, .inr (1, [.ref rb, .int (nI 32)])), (rb, .inl (kr, 66, .inl u.2.2))]) u) ((fun u : (Nat → Int32) × (Nat → Int32) × (Nat → Int32) => []) u) t) (va_A [(s0, .inr (10, [.ref a, .ref b, .int (nI 0)])), (a, .inl (ka, 8, .inl f)), (b, .inl (kb, 64, .inl g)), (r0, .inr (1, [.ref rb, .int (nI 0)])), (rb, .inl (kr, 66, .inl h))] sz)) 0 0 (va_A [(s0, .inr (10, [.ref a, .ref b, .int (nI 0)])), (a, .inl (ka, 8, .inl f)), (b, .inl (kb, 64, .inl g)), (r0, .inr (1, [.ref rb, .int (nI 0)])), (rb, .inl (kr, 66, .inl h))] sz) := by
  refine Met.ofW (cc := prog_9_method_7_code) (maxL := 6) (ret := none) (by decide) rfl ?_
  intro p e s m args below meth c s₁ B hml hv
  obtain ⟨rfl, hsz, hP, hK, hD0, hZ, hN⟩ := hv
  have hx := B.exec
  have hb := B.bytes
  have hr := B.returns
  have hts := kw (atoms_spec (ws := .code y_Sha_end prog_9_method_7_code 6 (none) :: AW) B.pre)
  have hown : s.vm.findClass R_Sha = some m.cls := findClass_of_methodNamed B.named
  have hlocks := B.notSynchronized
  subst hsz
  have hD := hD0.self (sz := s.heap.size)
  obtain ⟨Qg, hQg⟩ : ∃ q, q = MQ below (va_Qv (fun u : (Nat → Int32) × (Nat → Int32) × (Nat → Int32) => True) (fun (u : (Nat → Int32) × (Nat → Int32) × (Nat → Int32)) t => qw (dC, dI) CL (va_A [(s0, .inr (10, [.ref a, .ref b, .int (nI 0)])), (a, .inl (ka, 8, .inl f)), (b, .inl (kb, 64, .inl g)), (r0, .inr (1, [.ref rb, .int (nI 0)])), (rb, .inl (kr, 66, .inl h))] s.heap.size) ((fun u : (Nat → Int32) × (Nat → Int32) × (Nat → Int32) => [(s0, .inr (10, [.ref a, .ref b, .int (nI 64)])), (a, .inl (ka, 8, .inl u.1)), (b, .inl (kb, 64, .inl u.2.1)), (r0, .inr (1, [.ref rb, .int (nI 32)])), (rb, .inl (kr, 66, .inl u.2.2))]) u) ((fun u : (Nat → Int32) × (Nat → Int32) × (Nat → Int32) => []) u) t) (va_A [(s0, .inr (10, [.ref a, .ref b, .int (nI 0)])), (a, .inl (ka, 8, .inl f)), (b, .inl (kb, 64, .inl g)), (r0, .inr (1, [.ref rb, .int (nI 0)])), (rb, .inl (kr, 66, .inl h))] s.heap.size)) ([.ref s0, .ref r0] : List Value).toArray s 0 0 (va_A [(s0, .inr (10, [.ref a, .ref b, .int (nI 0)])), (a, .inl (ka, 8, .inl f)), (b, .inl (kb, 64, .inl g)), (r0, .inr (1, [.ref rb, .int (nI 0)])), (rb, .inl (kr, 66, .inl h))] s.heap.size) := ⟨_, rfl⟩
  rw [← hQg]
  generalize hAe : va_A [(s0, .inr (10, [.ref a, .ref b, .int (nI 0)])), (a, .inl (ka, 8, .inl f)), (b, .inl (kb, 64, .inl g)), (r0, .inr (1, [.ref rb, .int (nI 0)])), (rb, .inl (kr, 66, .inl h))] s.heap.size = A at hD hZ hQg
  have hA : ∀ q : Nat, s.heap.size ≤ q → A q := fun q h => by rw [← hAe]; exact Or.inr h
  have hS : va_S A s.heap s.heap [] := va_S.rf
  have hP : va_P (dC, dI) CL [(s0, .inr (10, [.ref a, .ref b, .int (nI 0)])), (a, .inl (ka, 8, .inl f)), (b, .inl (kb, 64, .inl g)), (r0, .inr (1, [.ref rb, .int (nI 0)])), (rb, .inl (kr, 66, .inl h))] s.heap := hP
  have hl := lv_entry ([.ref s0, .ref r0]) (n := 6) (Nat.le_of_ble_eq_true rfl)
  rw [lg_entry_eq]
  generalize (lg_sl ([.ref s0, .ref r0]) ++ List.replicate (6 - (lg_sl ([.ref s0, .ref r0])).length) Slot.unset).toArray = ls at hl ⊢
  have hl : lv_has ls 6 [(0, .ref s0), (1, .ref r0)] := hl
  show W p l e ({ frames := 3, cells := 0, slots := 0, locals := 79 } : Room) s m ([.ref s0, .ref r0] : List Value).toArray below meth c s.heap [] 0 0 Qg (F0 m 0 ls [])
  refine lv_bipush (v := (nI 8)) hx hb d_Sha_end_0 (by decide +kernel) ?_
  refine lv_aload_n hx hb d_Sha_end_2 rfl (lv_at hl 0 rfl) ?_
  refine va_get (D := (dC, dI)) (ci := 10) (v := .int (nI 0)) (C := R_Sha) (T := F_Sha) (N := 3) hx hb hts i_Sha hown hK hP 0 rfl rfl 2 (by decide) (hts _ m_208) (fun _ h9 => h9) rfl d_Sha_end_3 ?_
  refine lv_imul hx hb d_Sha_end_6 ?_
  refine ki (v := nI 0) (k_mul 8 0 rfl) ?_
  refine lv_istore_n (lv' := [(2, .int (nI 0)), (0, .ref s0), (1, .ref r0)]) hx hb d_Sha_end_7 rfl hl (by decide) rfl (fun ls hl => ?_)
  refine lv_aload_n hx hb d_Sha_end_8 rfl (lv_at hl 1 rfl) ?_
  refine lv_sipush (v := (nI 128)) hx hb d_Sha_end_9 (by decide +kernel) ?_
  refine k_finv (wr := [(r0, .inr (1, [.ref rb, .int (nI 0)])), (rb, .inl (kr, 66, .inl h))]) [0, 1, 2] [3, 4] (k_runV (n := 1) (As := [.int (nI 128)]) (rest := []) (wc := [(s0, .inr (10, [.ref a, .ref b, .int (nI 0)])), (a, .inl (ka, 8, .inl f)), (b, .inl (kb, 64, .inl g))]) ⟨hx, hb, hml, hown, hts⟩ (c_Sha_takeByte l dC dI s0 a b ka kb f g 0 (nI 128) _ (by omega)) (kg_V m_220 m_221 m_222 m_55 (kg_code m_219)) (by decide +kernel) rfl rfl ⟨Nat.le_of_ble_eq_true rfl, Nat.le_of_ble_eq_true rfl⟩ [0, 1, 2] [0, 1] hP hD hK hS hA hZ hN (by rfl) (by decide) (by rfl) rfl rfl rfl rfl hl.1 rfl (Nat.le_of_ble_eq_true rfl) d_Sha_end_12 ⟨(Nat.le_of_ble_eq_true rfl), (Nat.le_of_ble_eq_true rfl)⟩) hP hD hK hS hA (by rfl) (by rfl) (by decide) (by decide) (fun u9 H locs hw_4 hP hD hK hS => ?_)
  obtain ⟨f_1, g_2⟩ := u9
  try dsimp only at hw_4
  have hP : va_P (dC, dI) CL [(r0, .inr (1, [.ref rb, .int (nI 0)])), (rb, .inl (kr, 66, .inl h)), (s0, .inr (10, [.ref a, .ref b, .int (nI 1)])), (a, .inl (ka, 8, .inl f_1)), (b, .inl (kb, 64, .inl g_2))] H := hP
  have hD : va_D A [(r0, .inr (1, [.ref rb, .int (nI 0)])), (rb, .inl (kr, 66, .inl h)), (s0, .inr (10, [.ref a, .ref b, .int (nI 1)])), (a, .inl (ka, 8, .inl f_1)), (b, .inl (kb, 64, .inl g_2))] := hD
  have hK : va_K (dC, dI) CL [(ka, .int), (kb, .int), (kr, .byte)] s := hK
  refine lv_bipush (v := (nI 56)) hx hb d_Sha_end_15 (by decide +kernel) ?_
  refine lv_aload_n hx hb d_Sha_end_17 rfl (lv_at hl 1 rfl) ?_
  refine va_get (D := (dC, dI)) (ci := 10) (v := .int (nI 1)) (C := R_Sha) (T := F_Sha) (N := 3) hx hb hts i_Sha hown hK hP 2 rfl rfl 2 (by decide) (hts _ m_208) (fun _ h9 => h9) rfl d_Sha_end_18 ?_
  refine lv_isub hx hb d_Sha_end_21 ?_
  refine ki (v := nI 55) (by decide) ?_
  refine lv_bipush (v := (nI 63)) hx hb d_Sha_end_22 (by decide +kernel) ?_
  refine lv_iand hx hb d_Sha_end_24 ?_
  refine ki (v := nI 55) (pk_andN (by omega) 6 (by decide)) ?_
  refine lv_iconst (v := (nI 4)) hx hb d_Sha_end_25 (by decide +kernel) ?_
  refine lv_iadd hx hb d_Sha_end_26 ?_
  refine ki (v := nI 59) (k_add 55 4 rfl) ?_
  refine lv_istore_n (lv' := [(3, .int (nI 59)), (2, .int (nI 0)), (0, .ref s0), (1, .ref r0)]) hx hb d_Sha_end_27 rfl hl (by decide) rfl (fun ls hl => ?_)
  refine lv_iconst (v := (nI 0)) hx hb d_Sha_end_28 (by decide +kernel) ?_
  refine lv_istore (lv' := [(4, .int (nI 0)), (3, .int (nI 59)), (2, .int (nI 0)), (0, .ref s0), (1, .ref r0)]) hx hb d_Sha_end_29 hl (by decide) rfl (fun ls hl => ?_)
  have lb_31 : ∀ (n9 : Nat) (i9 : Nat) (f9 : Nat → Int32) (g9 : Nat → Int32) (H : Heap) (locs : List Loc) (ls : Array Slot), (i9 ≤ 59) → (59 - i9 < n9) → va_P (dC, dI) CL [(s0, .inr (10, [.ref a, .ref b, .int (nI (1 + i9))])), (a, .inl (ka, 8, .inl f9)), (b, .inl (kb, 64, .inl g9)), (r0, .inr (1, [.ref rb, .int (nI 0)])), (rb, .inl (kr, 66, .inl h))] H → va_D A [(s0, .inr (10, [.ref a, .ref b, .int (nI (1 + i9))])), (a, .inl (ka, 8, .inl f9)), (b, .inl (kb, 64, .inl g9)), (r0, .inr (1, [.ref rb, .int (nI 0)])), (rb, .inl (kr, 66, .inl h))] → va_S A s.heap H locs → lv_has ls 6 [(0, .ref s0), (1, .ref r0), (2, .int (nI 0)), (3, .int (nI 59)), (4, .int (nI i9))] → W p l e ({ frames := 3, cells := 0, slots := 0, locals := 79 } : Room) s m ([.ref s0, .ref r0] : List Value).toArray below meth c H locs 0 0 Qg (F0 m 31 ls []) := by
    intro n9
    induction n9 with
    | zero => intro i9 f9 g9 H locs ls hi9 hm9; exact absurd hm9 (Nat.not_lt_zero _)
    | succ n9 ih31 =>
      intro i9 f9 g9 H locs ls hi9 hm31 hP hD hS hl
      refine lv_iload hx hb d_Sha_end_31 (lv_at hl 4 rfl) ?_
      refine lv_iload_n hx hb d_Sha_end_33 rfl (lv_at hl 3 rfl) ?_
      refine lv_icmp_ge (tgt := 48) hx hb d_Sha_end_34 (by decide) (fun c34 => ?_) (fun c34 => ?_)
      · have c34 : 59 ≤ i9 := (nI_leI (by omega) (by omega)).mp c34
        obtain rfl : i9 = 59 := by omega
        have hP : va_P (dC, dI) CL [(s0, .inr (10, [.ref a, .ref b, .int (nI 60)])), (a, .inl (ka, 8, .inl f9)), (b, .inl (kb, 64, .inl g9)), (r0, .inr (1, [.ref rb, .int (nI 0)])), (rb, .inl (kr, 66, .inl h))] H := hP
        have hD : va_D A [(s0, .inr (10, [.ref a, .ref b, .int (nI 60)])), (a, .inl (ka, 8, .inl f9)), (b, .inl (kb, 64, .inl g9)), (r0, .inr (1, [.ref rb, .int (nI 0)])), (rb, .inl (kr, 66, .inl h))] := hD
        have hl : lv_has ls 6 [(0, .ref s0), (1, .ref r0), (2, .int (nI 0)), (3, .int (nI 59)), (4, .int (nI 59))] := hl
        refine lv_bipush (v := (nI 24)) hx hb d_Sha_end_48 (by decide +kernel) ?_
        refine lv_istore (lv' := [(4, .int (nI 24)), (0, .ref s0), (1, .ref r0), (2, .int (nI 0)), (3, .int (nI 59))]) hx hb d_Sha_end_50 hl (by decide) rfl (fun ls hl => ?_)
        refine lv_iload hx hb d_Sha_end_52 (lv_at hl 0 rfl) ?_
        refine lv_if_lt (tgt := 71) hx hb d_Sha_end_54 (by decide) (fun c54 => absurd c54 (by decide)) (fun c54 => ?_)
        refine lv_aload_n hx hb d_Sha_end_57 rfl (lv_at hl 1 rfl) ?_
        refine lv_iload_n hx hb d_Sha_end_58 rfl (lv_at hl 3 rfl) ?_
        refine lv_iload hx hb d_Sha_end_59 (lv_at hl 0 rfl) ?_
        refine lv_iushr hx hb d_Sha_end_61 rfl ?_
        refine lv_topi (fun v_5 _ => ?_)
        refine k_finv (wr := [(r0, .inr (1, [.ref rb, .int (nI 0)])), (rb, .inl (kr, 66, .inl h))]) [0, 1, 2] [3, 4] (k_runV (n := 1) (As := [.int v_5]) (rest := []) (wc := [(s0, .inr (10, [.ref a, .ref b, .int (nI 60)])), (a, .inl (ka, 8, .inl f9)), (b, .inl (kb, 64, .inl g9))]) ⟨hx, hb, hml, hown, hts⟩ (c_Sha_takeByte l dC dI s0 a b ka kb f9 g9 60 v_5 _ (by omega)) (kg_V m_220 m_221 m_222 m_55 (kg_code m_219)) (by decide +kernel) rfl rfl ⟨Nat.le_of_ble_eq_true rfl, Nat.le_of_ble_eq_true rfl⟩ [0, 1, 2] [0, 1] hP hD hK hS hA hZ hN (by rfl) (by decide) (by rfl) rfl rfl rfl rfl hl.1 rfl (Nat.le_of_ble_eq_true rfl) d_Sha_end_62 ⟨(Nat.le_of_ble_eq_true rfl), (Nat.le_of_ble_eq_true rfl)⟩) hP hD hK hS hA (by rfl) (by rfl) (by decide) (by decide) (fun u9 H locs hw_9 hP hD hK hS => ?_)
        obtain ⟨f_6, g_7⟩ := u9
        try dsimp only at hw_9
        have hP : va_P (dC, dI) CL [(r0, .inr (1, [.ref rb, .int (nI 0)])), (rb, .inl (kr, 66, .inl h)), (s0, .inr (10, [.ref a, .ref b, .int (nI 61)])), (a, .inl (ka, 8, .inl f_6)), (b, .inl (kb, 64, .inl g_7))] H := hP
        have hD : va_D A [(r0, .inr (1, [.ref rb, .int (nI 0)])), (rb, .inl (kr, 66, .inl h)), (s0, .inr (10, [.ref a, .ref b, .int (nI 61)])), (a, .inl (ka, 8, .inl f_6)), (b, .inl (kb, 64, .inl g_7))] := hD
        have hK : va_K (dC, dI) CL [(ka, .int), (kb, .int), (kr, .byte)] s := hK
        refine lv_iinc (v := (nI 16)) (lv' := [(4, .int (nI 16)), (0, .ref s0), (1, .ref r0), (2, .int (nI 0)), (3, .int (nI 59))]) hx hb d_Sha_end_65 hl (k := 0) rfl (by decide) (by decide) rfl (fun ls hl => ?_)
        refine lv_goto (tgt := 52) hx hb d_Sha_end_68 (by decide) ?_
        refine lv_iload hx hb d_Sha_end_52 (lv_at hl 0 rfl) ?_
        refine lv_if_lt (tgt := 71) hx hb d_Sha_end_54 (by decide) (fun c54 => absurd c54 (by decide)) (fun c54 => ?_)
        refine lv_aload_n hx hb d_Sha_end_57 rfl (lv_at hl 1 rfl) ?_
        refine lv_iload_n hx hb d_Sha_end_58 rfl (lv_at hl 3 rfl) ?_
        refine lv_iload hx hb d_Sha_end_59 (lv_at hl 0 rfl) ?_
        refine lv_iushr hx hb d_Sha_end_61 rfl ?_
        refine lv_topi (fun v_10 _ => ?_)
        refine k_finv (wr := [(r0, .inr (1, [.ref rb, .int (nI 0)])), (rb, .inl (kr, 66, .inl h))]) [2, 3, 4] [0, 1] (k_runV (n := 1) (As := [.int v_10]) (rest := []) (wc := [(s0, .inr (10, [.ref a, .ref b, .int (nI 61)])), (a, .inl (ka, 8, .inl f_6)), (b, .inl (kb, 64, .inl g_7))]) ⟨hx, hb, hml, hown, hts⟩ (c_Sha_takeByte l dC dI s0 a b ka kb f_6 g_7 61 v_10 _ (by omega)) (kg_V m_220 m_221 m_222 m_55 (kg_code m_219)) (by decide +kernel) rfl rfl ⟨Nat.le_of_ble_eq_true rfl, Nat.le_of_ble_eq_true rfl⟩ [2, 3, 4] [0, 1] hP hD hK hS hA hZ hN (by rfl) (by decide) (by rfl) rfl rfl rfl rfl hl.1 rfl (Nat.le_of_ble_eq_true rfl) d_Sha_end_62 ⟨(Nat.le_of_ble_eq_true rfl), (Nat.le_of_ble_eq_true rfl)⟩) hP hD hK hS hA (by rfl) (by rfl) (by decide) (by decide) (fun u9 H locs hw_14 hP hD hK hS => ?_)
        obtain ⟨f_11, g_12⟩ := u9
        try dsimp only at hw_14
        have hP : va_P (dC, dI) CL [(r0, .inr (1, [.ref rb, .int (nI 0)])), (rb, .inl (kr, 66, .inl h)), (s0, .inr (10, [.ref a, .ref b, .int (nI 62)])), (a, .inl (ka, 8, .inl f_11)), (b, .inl (kb, 64, .inl g_12))] H := hP
        have hD : va_D A [(r0, .inr (1, [.ref rb, .int (nI 0)])), (rb, .inl (kr, 66, .inl h)), (s0, .inr (10, [.ref a, .ref b, .int (nI 62)])), (a, .inl (ka, 8, .inl f_11)), (b, .inl (kb, 64, .inl g_12))] := hD
        have hK : va_K (dC, dI) CL [(ka, .int), (kb, .int), (kr, .byte)] s := hK
        refine lv_iinc (v := (nI 8)) (lv' := [(4, .int (nI 8)), (0, .ref s0), (1, .ref r0), (2, .int (nI 0)), (3, .int (nI 59))]) hx hb d_Sha_end_65 hl (k := 0) rfl (by decide) (by decide) rfl (fun ls hl => ?_)
        refine lv_goto (tgt := 52) hx hb d_Sha_end_68 (by decide) ?_
        refine lv_iload hx hb d_Sha_end_52 (lv_at hl 0 rfl) ?_
        refine lv_if_lt (tgt := 71) hx hb d_Sha_end_54 (by decide) (fun c54 => absurd c54 (by decide)) (fun c54 => ?_)
        refine lv_aload_n hx hb d_Sha_end_57 rfl (lv_at hl 1 rfl) ?_
        refine lv_iload_n hx hb d_Sha_end_58 rfl (lv_at hl 3 rfl) ?_
        refine lv_iload hx hb d_Sha_end_59 (lv_at hl 0 rfl) ?_
        refine lv_iushr hx hb d_Sha_end_61 rfl ?_
        refine lv_topi (fun v_15 _ => ?_)
        refine k_finv (wr := [(r0, .inr (1, [.ref rb, .int (nI 0)])), (rb, .inl (kr, 66, .inl h))]) [2, 3, 4] [0, 1] (k_runV (n := 1) (As := [.int v_15]) (rest := []) (wc := [(s0, .inr (10, [.ref a, .ref b, .int (nI 62)])), (a, .inl (ka, 8, .inl f_11)), (b, .inl (kb, 64, .inl g_12))]) ⟨hx, hb, hml, hown, hts⟩ (c_Sha_takeByte l dC dI s0 a b ka kb f_11 g_12 62 v_15 _ (by omega)) (kg_V m_220 m_221 m_222 m_55 (kg_code m_219)) (by decide +kernel) rfl rfl ⟨Nat.le_of_ble_eq_true rfl, Nat.le_of_ble_eq_true rfl⟩ [2, 3, 4] [0, 1] hP hD hK hS hA hZ hN (by rfl) (by decide) (by rfl) rfl rfl rfl rfl hl.1 rfl (Nat.le_of_ble_eq_true rfl) d_Sha_end_62 ⟨(Nat.le_of_ble_eq_true rfl), (Nat.le_of_ble_eq_true rfl)⟩) hP hD hK hS hA (by rfl) (by rfl) (by decide) (by decide) (fun u9 H locs hw_19 hP hD hK hS => ?_)
        obtain ⟨f_16, g_17⟩ := u9
        try dsimp only at hw_19
        have hP : va_P (dC, dI) CL [(r0, .inr (1, [.ref rb, .int (nI 0)])), (rb, .inl (kr, 66, .inl h)), (s0, .inr (10, [.ref a, .ref b, .int (nI 63)])), (a, .inl (ka, 8, .inl f_16)), (b, .inl (kb, 64, .inl g_17))] H := hP
        have hD : va_D A [(r0, .inr (1, [.ref rb, .int (nI 0)])), (rb, .inl (kr, 66, .inl h)), (s0, .inr (10, [.ref a, .ref b, .int (nI 63)])), (a, .inl (ka, 8, .inl f_16)), (b, .inl (kb, 64, .inl g_17))] := hD
        have hK : va_K (dC, dI) CL [(ka, .int), (kb, .int), (kr, .byte)] s := hK
        refine lv_iinc (v := (nI 0)) (lv' := [(4, .int (nI 0)), (0, .ref s0), (1, .ref r0), (2, .int (nI 0)), (3, .int (nI 59))]) hx hb d_Sha_end_65 hl (k := 0) rfl (by decide) (by decide) rfl (fun ls hl => ?_)
        refine lv_goto (tgt := 52) hx hb d_Sha_end_68 (by decide) ?_
        refine lv_iload hx hb d_Sha_end_52 (lv_at hl 0 rfl) ?_
        refine lv_if_lt (tgt := 71) hx hb d_Sha_end_54 (by decide) (fun c54 => absurd c54 (by decide)) (fun c54 => ?_)
        refine lv_aload_n hx hb d_Sha_end_57 rfl (lv_at hl 1 rfl) ?_
        refine lv_iload_n hx hb d_Sha_end_58 rfl (lv_at hl 3 rfl) ?_
        refine lv_iload hx hb d_Sha_end_59 (lv_at hl 0 rfl) ?_
        refine lv_iushr hx hb d_Sha_end_61 rfl ?_
        refine lv_topi (fun v_20 _ => ?_)
        refine k_finv (wr := [(r0, .inr (1, [.ref rb, .int (nI 0)])), (rb, .inl (kr, 66, .inl h))]) [2, 3, 4] [0, 1] (k_runV (n := 1) (As := [.int v_20]) (rest := []) (wc := [(s0, .inr (10, [.ref a, .ref b, .int (nI 63)])), (a, .inl (ka, 8, .inl f_16)), (b, .inl (kb, 64, .inl g_17))]) ⟨hx, hb, hml, hown, hts⟩ (c_Sha_takeByte l dC dI s0 a b ka kb f_16 g_17 63 v_20 _ (by omega)) (kg_V m_220 m_221 m_222 m_55 (kg_code m_219)) (by decide +kernel) rfl rfl ⟨Nat.le_of_ble_eq_true rfl, Nat.le_of_ble_eq_true rfl⟩ [2, 3, 4] [0, 1] hP hD hK hS hA hZ hN (by rfl) (by decide) (by rfl) rfl rfl rfl rfl hl.1 rfl (Nat.le_of_ble_eq_true rfl) d_Sha_end_62 ⟨(Nat.le_of_ble_eq_true rfl), (Nat.le_of_ble_eq_true rfl)⟩) hP hD hK hS hA (by rfl) (by rfl) (by decide) (by decide) (fun u9 H locs hw_24 hP hD hK hS => ?_)
        obtain ⟨f_21, g_22⟩ := u9
        try dsimp only at hw_24
        have hP : va_P (dC, dI) CL [(r0, .inr (1, [.ref rb, .int (nI 0)])), (rb, .inl (kr, 66, .inl h)), (s0, .inr (10, [.ref a, .ref b, .int (nI 64)])), (a, .inl (ka, 8, .inl f_21)), (b, .inl (kb, 64, .inl g_22))] H := hP
        have hD : va_D A [(r0, .inr (1, [.ref rb, .int (nI 0)])), (rb, .inl (kr, 66, .inl h)), (s0, .inr (10, [.ref a, .ref b, .int (nI 64)])), (a, .inl (ka, 8, .inl f_21)), (b, .inl (kb, 64, .inl g_22))] := hD
        have hK : va_K (dC, dI) CL [(ka, .int), (kb, .int), (kr, .byte)] s := hK
        refine lv_iinc (v := (-8)) (lv' := [(4, .int (-8)), (0, .ref s0), (1, .ref r0), (2, .int (nI 0)), (3, .int (nI 59))]) hx hb d_Sha_end_65 hl (k := 0) rfl (by decide) (by decide) rfl (fun ls hl => ?_)
        refine lv_goto (tgt := 52) hx hb d_Sha_end_68 (by decide) ?_
        refine lv_iload hx hb d_Sha_end_52 (lv_at hl 0 rfl) ?_
        refine lv_if_lt (tgt := 71) hx hb d_Sha_end_54 (by decide) (fun c54 => ?_) (fun c54 => absurd (by decide) c54)
        refine lv_iconst (v := (nI 0)) hx hb d_Sha_end_71 (by decide +kernel) ?_
        refine lv_istore (lv' := [(4, .int (nI 0)), (0, .ref s0), (1, .ref r0), (2, .int (nI 0)), (3, .int (nI 59))]) hx hb d_Sha_end_72 hl (by decide) rfl (fun ls hl => ?_)
        refine lv_iload hx hb d_Sha_end_74 (lv_at hl 0 rfl) ?_
        refine lv_bipush (v := (nI 8)) hx hb d_Sha_end_76 (by decide +kernel) ?_
        refine lv_icmp_ge (tgt := 116) hx hb d_Sha_end_78 (by decide) (fun c78 => absurd c78 (by decide)) (fun c78 => ?_)
        refine lv_bipush (v := (nI 24)) hx hb d_Sha_end_81 (by decide +kernel) ?_
        refine lv_istore (lv' := [(5, .int (nI 24)), (4, .int (nI 0)), (0, .ref s0), (1, .ref r0), (2, .int (nI 0)), (3, .int (nI 59))]) hx hb d_Sha_end_83 hl (by decide) rfl (fun ls hl => ?_)
        refine lv_iload hx hb d_Sha_end_85 (lv_at hl 0 rfl) ?_
        refine lv_if_lt (tgt := 110) hx hb d_Sha_end_87 (by decide) (fun c87 => absurd c87 (by decide)) (fun c87 => ?_)
        refine lv_aload_n hx hb d_Sha_end_90 rfl (lv_at hl 3 rfl) ?_
        refine lv_aload_n hx hb d_Sha_end_91 rfl (lv_at hl 2 rfl) ?_
        refine va_get (D := (dC, dI)) (ci := 10) (v := .ref a) (C := R_Sha) (T := F_Sha) (N := 3) hx hb hts i_Sha hown hK hP 2 rfl rfl 0 (by decide) (hts _ m_50) (fun _ h9 => h9) rfl d_Sha_end_92 ?_
        refine lv_iload hx hb d_Sha_end_95 (lv_at hl 1 rfl) ?_
        refine kv_iald hx hb hK hP 3 0 rfl rfl (by omega) (by omega) d_Sha_end_97 ?_
        refine lv_topi (fun v_25 _ => ?_)
        refine lv_iload hx hb d_Sha_end_98 (lv_at hl 0 rfl) ?_
        refine lv_iushr hx hb d_Sha_end_100 rfl ?_
        refine lv_topi (fun v_26 _ => ?_)
        refine k_finv (wr := [(s0, .inr (10, [.ref a, .ref b, .int (nI 64)])), (a, .inl (ka, 8, .inl f_21)), (b, .inl (kb, 64, .inl g_22))]) [0, 1] [2, 3, 4] (k_runV (n := 1) (As := [.int v_26]) (rest := []) (wc := [(r0, .inr (1, [.ref rb, .int (nI 0)])), (rb, .inl (kr, 66, .inl h))]) ⟨hx, hb, hml, hown, hts⟩ (c_Row_put l dC dI r0 rb kr 66 0 h v_26 _ (by omega) (by omega)) (kg_V m_223 m_156 m_157 m_10 (kg_code m_154)) (by decide +kernel) rfl rfl ⟨Nat.le_of_ble_eq_true rfl, Nat.le_of_ble_eq_true rfl⟩ [0, 1] [2] hP hD hK hS hA hZ hN (by rfl) (by decide) (by rfl) rfl rfl rfl rfl hl.1 rfl (Nat.le_of_ble_eq_true rfl) d_Sha_end_101 ⟨(Nat.le_of_ble_eq_true rfl), (Nat.le_of_ble_eq_true rfl)⟩) hP hD hK hS hA (by rfl) (by rfl) (by decide) (by decide) (fun u9 H locs hw_29 hP hD hK hS => ?_)
        obtain ⟨g_27, rfl⟩ : ∃ z, z = u9 := ⟨_, rfl⟩
        try dsimp only at hw_29
        have hP : va_P (dC, dI) CL [(s0, .inr (10, [.ref a, .ref b, .int (nI 64)])), (a, .inl (ka, 8, .inl f_21)), (b, .inl (kb, 64, .inl g_22)), (r0, .inr (1, [.ref rb, .int (nI 1)])), (rb, .inl (kr, 66, .inl g_27))] H := hP
        have hD : va_D A [(s0, .inr (10, [.ref a, .ref b, .int (nI 64)])), (a, .inl (ka, 8, .inl f_21)), (b, .inl (kb, 64, .inl g_22)), (r0, .inr (1, [.ref rb, .int (nI 1)])), (rb, .inl (kr, 66, .inl g_27))] := hD
        have hK : va_K (dC, dI) CL [(ka, .int), (kb, .int), (kr, .byte)] s := hK
        refine lv_iinc (v := (nI 16)) (lv' := [(5, .int (nI 16)), (4, .int (nI 0)), (0, .ref s0), (1, .ref r0), (2, .int (nI 0)), (3, .int (nI 59))]) hx hb d_Sha_end_104 hl (k := 0) rfl (by decide) (by decide) rfl (fun ls hl => ?_)
        refine lv_goto (tgt := 85) hx hb d_Sha_end_107 (by decide) ?_
        refine lv_iload hx hb d_Sha_end_85 (lv_at hl 0 rfl) ?_
        refine lv_if_lt (tgt := 110) hx hb d_Sha_end_87 (by decide) (fun c87 => absurd c87 (by decide)) (fun c87 => ?_)
        refine lv_aload_n hx hb d_Sha_end_90 rfl (lv_at hl 3 rfl) ?_
        refine lv_aload_n hx hb d_Sha_end_91 rfl (lv_at hl 2 rfl) ?_
        refine va_get (D := (dC, dI)) (ci := 10) (v := .ref a) (C := R_Sha) (T := F_Sha) (N := 3) hx hb hts i_Sha hown hK hP 0 rfl rfl 0 (by decide) (hts _ m_50) (fun _ h9 => h9) rfl d_Sha_end_92 ?_
        refine lv_iload hx hb d_Sha_end_95 (lv_at hl 1 rfl) ?_
        refine kv_iald hx hb hK hP 1 0 rfl rfl (by omega) (by omega) d_Sha_end_97 ?_
        refine lv_topi (fun v_30 _ => ?_)
        refine lv_iload hx hb d_Sha_end_98 (lv_at hl 0 rfl) ?_
        refine lv_iushr hx hb d_Sha_end_100 rfl ?_
        refine lv_topi (fun v_31 _ => ?_)
        refine k_finv (wr := [(s0, .inr (10, [.ref a, .ref b, .int (nI 64)])), (a, .inl (ka, 8, .inl f_21)), (b, .inl (kb, 64, .inl g_22))]) [3, 4] [0, 1, 2] (k_runV (n := 1) (As := [.int v_31]) (rest := []) (wc := [(r0, .inr (1, [.ref rb, .int (nI 1)])), (rb, .inl (kr, 66, .inl g_27))]) ⟨hx, hb, hml, hown, hts⟩ (c_Row_put l dC dI r0 rb kr 66 1 g_27 v_31 _ (by omega) (by omega)) (kg_V m_223 m_156 m_157 m_10 (kg_code m_154)) (by decide +kernel) rfl rfl ⟨Nat.le_of_ble_eq_true rfl, Nat.le_of_ble_eq_true rfl⟩ [3, 4] [2] hP hD hK hS hA hZ hN (by rfl) (by decide) (by rfl) rfl rfl rfl rfl hl.1 rfl (Nat.le_of_ble_eq_true rfl) d_Sha_end_101 ⟨(Nat.le_of_ble_eq_true rfl), (Nat.le_of_ble_eq_true rfl)⟩) hP hD hK hS hA (by rfl) (by rfl) (by decide) (by decide) (fun u9 H locs hw_34 hP hD hK hS => ?_)
        obtain ⟨g_32, rfl⟩ : ∃ z, z = u9 := ⟨_, rfl⟩
        try dsimp only at hw_34
        have hP : va_P (dC, dI) CL [(s0, .inr (10, [.ref a, .ref b, .int (nI 64)])), (a, .inl (ka, 8, .inl f_21)), (b, .inl (kb, 64, .inl g_22)), (r0, .inr (1, [.ref rb, .int (nI 2)])), (rb, .inl (kr, 66, .inl g_32))] H := hP
        have hD : va_D A [(s0, .inr (10, [.ref a, .ref b, .int (nI 64)])), (a, .inl (ka, 8, .inl f_21)), (b, .inl (kb, 64, .inl g_22)), (r0, .inr (1, [.ref rb, .int (nI 2)])), (rb, .inl (kr, 66, .inl g_32))] := hD
        have hK : va_K (dC, dI) CL [(ka, .int), (kb, .int), (kr, .byte)] s := hK
        refine lv_iinc (v := (nI 8)) (lv' := [(5, .int (nI 8)), (4, .int (nI 0)), (0, .ref s0), (1, .ref r0), (2, .int (nI 0)), (3, .int (nI 59))]) hx hb d_Sha_end_104 hl (k := 0) rfl (by decide) (by decide) rfl (fun ls hl => ?_)
        refine lv_goto (tgt := 85) hx hb d_Sha_end_107 (by decide) ?_
        refine lv_iload hx hb d_Sha_end_85 (lv_at hl 0 rfl) ?_
        refine lv_if_lt (tgt := 110) hx hb d_Sha_end_87 (by decide) (fun c87 => absurd c87 (by decide)) (fun c87 => ?_)
        refine lv_aload_n hx hb d_Sha_end_90 rfl (lv_at hl 3 rfl) ?_
        refine lv_aload_n hx hb d_Sha_end_91 rfl (lv_at hl 2 rfl) ?_
        refine va_get (D := (dC, dI)) (ci := 10) (v := .ref a) (C := R_Sha) (T := F_Sha) (N := 3) hx hb hts i_Sha hown hK hP 0 rfl rfl 0 (by decide) (hts _ m_50) (fun _ h9 => h9) rfl d_Sha_end_92 ?_
        refine lv_iload hx hb d_Sha_end_95 (lv_at hl 1 rfl) ?_
        refine kv_iald hx hb hK hP 1 0 rfl rfl (by omega) (by omega) d_Sha_end_97 ?_
        refine lv_topi (fun v_35 _ => ?_)
        refine lv_iload hx hb d_Sha_end_98 (lv_at hl 0 rfl) ?_
        refine lv_iushr hx hb d_Sha_end_100 rfl ?_
        refine lv_topi (fun v_36 _ => ?_)
        refine k_finv (wr := [(s0, .inr (10, [.ref a, .ref b, .int (nI 64)])), (a, .inl (ka, 8, .inl f_21)), (b, .inl (kb, 64, .inl g_22))]) [3, 4] [0, 1, 2] (k_runV (n := 1) (As := [.int v_36]) (rest := []) (wc := [(r0, .inr (1, [.ref rb, .int (nI 2)])), (rb, .inl (kr, 66, .inl g_32))]) ⟨hx, hb, hml, hown, hts⟩ (c_Row_put l dC dI r0 rb kr 66 2 g_32 v_36 _ (by omega) (by omega)) (kg_V m_223 m_156 m_157 m_10 (kg_code m_154)) (by decide +kernel) rfl rfl ⟨Nat.le_of_ble_eq_true rfl, Nat.le_of_ble_eq_true rfl⟩ [3, 4] [2] hP hD hK hS hA hZ hN (by rfl) (by decide) (by rfl) rfl rfl rfl rfl hl.1 rfl (Nat.le_of_ble_eq_true rfl) d_Sha_end_101 ⟨(Nat.le_of_ble_eq_true rfl), (Nat.le_of_ble_eq_true rfl)⟩) hP hD hK hS hA (by rfl) (by rfl) (by decide) (by decide) (fun u9 H locs hw_39 hP hD hK hS => ?_)
        obtain ⟨g_37, rfl⟩ : ∃ z, z = u9 := ⟨_, rfl⟩
        try dsimp only at hw_39
        have hP : va_P (dC, dI) CL [(s0, .inr (10, [.ref a, .ref b, .int (nI 64)])), (a, .inl (ka, 8, .inl f_21)), (b, .inl (kb, 64, .inl g_22)), (r0, .inr (1, [.ref rb, .int (nI 3)])), (rb, .inl (kr, 66, .inl g_37))] H := hP
        have hD : va_D A [(s0, .inr (10, [.ref a, .ref b, .int (nI 64)])), (a, .inl (ka, 8, .inl f_21)), (b, .inl (kb, 64, .inl g_22)), (r0, .inr (1, [.ref rb, .int (nI 3)])), (rb, .inl (kr, 66, .inl g_37))] := hD
        have hK : va_K (dC, dI) CL [(ka, .int), (kb, .int), (kr, .byte)] s := hK
        refine lv_iinc (v := (nI 0)) (lv' := [(5, .int (nI 0)), (4, .int (nI 0)), (0, .ref s0), (1, .ref r0), (2, .int (nI 0)), (3, .int (nI 59))]) hx hb d_Sha_end_104 hl (k := 0) rfl (by decide) (by decide) rfl (fun ls hl => ?_)
        refine lv_goto (tgt := 85) hx hb d_Sha_end_107 (by decide) ?_
        refine lv_iload hx hb d_Sha_end_85 (lv_at hl 0 rfl) ?_
        refine lv_if_lt (tgt := 110) hx hb d_Sha_end_87 (by decide) (fun c87 => absurd c87 (by decide)) (fun c87 => ?_)
        refine lv_aload_n hx hb d_Sha_end_90 rfl (lv_at hl 3 rfl) ?_
        refine lv_aload_n hx hb d_Sha_end_91 rfl (lv_at hl 2 rfl) ?_
        refine va_get (D := (dC, dI)) (ci := 10) (v := .ref a) (C := R_Sha) (T := F_Sha) (N := 3) hx hb hts i_Sha hown hK hP 0 rfl rfl 0 (by decide) (hts _ m_50) (fun _ h9 => h9) rfl d_Sha_end_92 ?_
        refine lv_iload hx hb d_Sha_end_95 (lv_at hl 1 rfl) ?_
        refine kv_iald hx hb hK hP 1 0 rfl rfl (by omega) (by omega) d_Sha_end_97 ?_
        refine lv_topi (fun v_40 _ => ?_)
        refine lv_iload hx hb d_Sha_end_98 (lv_at hl 0 rfl) ?_
        refine lv_iushr hx hb d_Sha_end_100 rfl ?_
        refine lv_topi (fun v_41 _ => ?_)
        refine k_finv (wr := [(s0, .inr (10, [.ref a, .ref b, .int (nI 64)])), (a, .inl (ka, 8, .inl f_21)), (b, .inl (kb, 64, .inl g_22))]) [3, 4] [0, 1, 2] (k_runV (n := 1) (As := [.int v_41]) (rest := []) (wc := [(r0, .inr (1, [.ref rb, .int (nI 3)])), (rb, .inl (kr, 66, .inl g_37))]) ⟨hx, hb, hml, hown, hts⟩ (c_Row_put l dC dI r0 rb kr 66 3 g_37 v_41 _ (by omega) (by omega)) (kg_V m_223 m_156 m_157 m_10 (kg_code m_154)) (by decide +kernel) rfl rfl ⟨Nat.le_of_ble_eq_true rfl, Nat.le_of_ble_eq_true rfl⟩ [3, 4] [2] hP hD hK hS hA hZ hN (by rfl) (by decide) (by rfl) rfl rfl rfl rfl hl.1 rfl (Nat.le_of_ble_eq_true rfl) d_Sha_end_101 ⟨(Nat.le_of_ble_eq_true rfl), (Nat.le_of_ble_eq_true rfl)⟩) hP hD hK hS hA (by rfl) (by rfl) (by decide) (by decide) (fun u9 H locs hw_44 hP hD hK hS => ?_)
        obtain ⟨g_42, rfl⟩ : ∃ z, z = u9 := ⟨_, rfl⟩
        try dsimp only at hw_44
        have hP : va_P (dC, dI) CL [(s0, .inr (10, [.ref a, .ref b, .int (nI 64)])), (a, .inl (ka, 8, .inl f_21)), (b, .inl (kb, 64, .inl g_22)), (r0, .inr (1, [.ref rb, .int (nI 4)])), (rb, .inl (kr, 66, .inl g_42))] H := hP
        have hD : va_D A [(s0, .inr (10, [.ref a, .ref b, .int (nI 64)])), (a, .inl (ka, 8, .inl f_21)), (b, .inl (kb, 64, .inl g_22)), (r0, .inr (1, [.ref rb, .int (nI 4)])), (rb, .inl (kr, 66, .inl g_42))] := hD
        have hK : va_K (dC, dI) CL [(ka, .int), (kb, .int), (kr, .byte)] s := hK
        refine lv_iinc (v := (-8)) (lv' := [(5, .int (-8)), (4, .int (nI 0)), (0, .ref s0), (1, .ref r0), (2, .int (nI 0)), (3, .int (nI 59))]) hx hb d_Sha_end_104 hl (k := 0) rfl (by decide) (by decide) rfl (fun ls hl => ?_)
        refine lv_goto (tgt := 85) hx hb d_Sha_end_107 (by decide) ?_
        refine lv_iload hx hb d_Sha_end_85 (lv_at hl 0 rfl) ?_
        refine lv_if_lt (tgt := 110) hx hb d_Sha_end_87 (by decide) (fun c87 => ?_) (fun c87 => absurd (by decide) c87)
        refine lv_iinc (v := (nI 1)) (lv' := [(4, .int (nI 1)), (5, .int (-8)), (0, .ref s0), (1, .ref r0), (2, .int (nI 0)), (3, .int (nI 59))]) hx hb d_Sha_end_110 hl (k := 1) rfl (k_inc _) (by decide) rfl (fun ls hl => ?_)
        refine lv_goto (tgt := 74) hx hb d_Sha_end_113 (by decide) ?_
        refine lv_iload hx hb d_Sha_end_74 (lv_at hl 0 rfl) ?_
        refine lv_bipush (v := (nI 8)) hx hb d_Sha_end_76 (by decide +kernel) ?_
        refine lv_icmp_ge (tgt := 116) hx hb d_Sha_end_78 (by decide) (fun c78 => absurd c78 (by decide)) (fun c78 => ?_)
        refine lv_bipush (v := (nI 24)) hx hb d_Sha_end_81 (by decide +kernel) ?_
        refine lv_istore (lv' := [(5, .int (nI 24)), (4, .int (nI 1)), (0, .ref s0), (1, .ref r0), (2, .int (nI 0)), (3, .int (nI 59))]) hx hb d_Sha_end_83 hl (by decide) rfl (fun ls hl => ?_)
        refine lv_iload hx hb d_Sha_end_85 (lv_at hl 0 rfl) ?_
        refine lv_if_lt (tgt := 110) hx hb d_Sha_end_87 (by decide) (fun c87 => absurd c87 (by decide)) (fun c87 => ?_)
        refine lv_aload_n hx hb d_Sha_end_90 rfl (lv_at hl 3 rfl) ?_
        refine lv_aload_n hx hb d_Sha_end_91 rfl (lv_at hl 2 rfl) ?_
        refine va_get (D := (dC, dI)) (ci := 10) (v := .ref a) (C := R_Sha) (T := F_Sha) (N := 3) hx hb hts i_Sha hown hK hP 0 rfl rfl 0 (by decide) (hts _ m_50) (fun _ h9 => h9) rfl d_Sha_end_92 ?_
        refine lv_iload hx hb d_Sha_end_95 (lv_at hl 1 rfl) ?_
        refine kv_iald hx hb hK hP 1 0 rfl rfl (by omega) (by omega) d_Sha_end_97 ?_
        refine lv_topi (fun v_45 _ => ?_)
        refine lv_iload hx hb d_Sha_end_98 (lv_at hl 0 rfl) ?_
        refine lv_iushr hx hb d_Sha_end_100 rfl ?_
        refine lv_topi (fun v_46 _ => ?_)
        refine k_finv (wr := [(s0, .inr (10, [.ref a, .ref b, .int (nI 64)])), (a, .inl (ka, 8, .inl f_21)), (b, .inl (kb, 64, .inl g_22))]) [3, 4] [0, 1, 2] (k_runV (n := 1) (As := [.int v_46]) (rest := []) (wc := [(r0, .inr (1, [.ref rb, .int (nI 4)])), (rb, .inl (kr, 66, .inl g_42))]) ⟨hx, hb, hml, hown, hts⟩ (c_Row_put l dC dI r0 rb kr 66 4 g_42 v_46 _ (by omega) (by omega)) (kg_V m_223 m_156 m_157 m_10 (kg_code m_154)) (by decide +kernel) rfl rfl ⟨Nat.le_of_ble_eq_true rfl, Nat.le_of_ble_eq_true rfl⟩ [3, 4] [2] hP hD hK hS hA hZ hN (by rfl) (by decide) (by rfl) rfl rfl rfl rfl hl.1 rfl (Nat.le_of_ble_eq_true rfl) d_Sha_end_101 ⟨(Nat.le_of_ble_eq_true rfl), (Nat.le_of_ble_eq_true rfl)⟩) hP hD hK hS hA (by rfl) (by rfl) (by decide) (by decide) (fun u9 H locs hw_49 hP hD hK hS => ?_)
        obtain ⟨g_47, rfl⟩ : ∃ z, z = u9 := ⟨_, rfl⟩
        try dsimp only at hw_49
        have hP : va_P (dC, dI) CL [(s0, .inr (10, [.ref a, .ref b, .int (nI 64)])), (a, .inl (ka, 8, .inl f_21)), (b, .inl (kb, 64, .inl g_22)), (r0, .inr (1, [.ref rb, .int (nI 5)])), (rb, .inl (kr, 66, .inl g_47))] H := hP
        have hD : va_D A [(s0, .inr (10, [.ref a, .ref b, .int (nI 64)])), (a, .inl (ka, 8, .inl f_21)), (b, .inl (kb, 64, .inl g_22)), (r0, .inr (1, [.ref rb, .int (nI 5)])), (rb, .inl (kr, 66, .inl g_47))] := hD
        have hK : va_K (dC, dI) CL [(ka, .int), (kb, .int), (kr, .byte)] s := hK
        refine lv_iinc (v := (nI 16)) (lv' := [(5, .int (nI 16)), (4, .int (nI 1)), (0, .ref s0), (1, .ref r0), (2, .int (nI 0)), (3, .int (nI 59))]) hx hb d_Sha_end_104 hl (k := 0) rfl (by decide) (by decide) rfl (fun ls hl => ?_)
        refine lv_goto (tgt := 85) hx hb d_Sha_end_107 (by decide) ?_
        refine lv_iload hx hb d_Sha_end_85 (lv_at hl 0 rfl) ?_
        refine lv_if_lt (tgt := 110) hx hb d_Sha_end_87 (by decide) (fun c87 => absurd c87 (by decide)) (fun c87 => ?_)
        refine lv_aload_n hx hb d_Sha_end_90 rfl (lv_at hl 3 rfl) ?_
        refine lv_aload_n hx hb d_Sha_end_91 rfl (lv_at hl 2 rfl) ?_
        refine va_get (D := (dC, dI)) (ci := 10) (v := .ref a) (C := R_Sha) (T := F_Sha) (N := 3) hx hb hts i_Sha hown hK hP 0 rfl rfl 0 (by decide) (hts _ m_50) (fun _ h9 => h9) rfl d_Sha_end_92 ?_
        refine lv_iload hx hb d_Sha_end_95 (lv_at hl 1 rfl) ?_
        refine kv_iald hx hb hK hP 1 0 rfl rfl (by omega) (by omega) d_Sha_end_97 ?_
        refine lv_topi (fun v_50 _ => ?_)
        refine lv_iload hx hb d_Sha_end_98 (lv_at hl 0 rfl) ?_
        refine lv_iushr hx hb d_Sha_end_100 rfl ?_
        refine lv_topi (fun v_51 _ => ?_)
        refine k_finv (wr := [(s0, .inr (10, [.ref a, .ref b, .int (nI 64)])), (a, .inl (ka, 8, .inl f_21)), (b, .inl (kb, 64, .inl g_22))]) [3, 4] [0, 1, 2] (k_runV (n := 1) (As := [.int v_51]) (rest := []) (wc := [(r0, .inr (1, [.ref rb, .int (nI 5)])), (rb, .inl (kr, 66, .inl g_47))]) ⟨hx, hb, hml, hown, hts⟩ (c_Row_put l dC dI r0 rb kr 66 5 g_47 v_51 _ (by omega) (by omega)) (kg_V m_223 m_156 m_157 m_10 (kg_code m_154)) (by decide +kernel) rfl rfl ⟨Nat.le_of_ble_eq_true rfl, Nat.le_of_ble_eq_true rfl⟩ [3, 4] [2] hP hD hK hS hA hZ hN (by rfl) (by decide) (by rfl) rfl rfl rfl rfl hl.1 rfl (Nat.le_of_ble_eq_true rfl) d_Sha_end_101 ⟨(Nat.le_of_ble_eq_true rfl), (Nat.le_of_ble_eq_true rfl)⟩) hP hD hK hS hA (by rfl) (by rfl) (by decide) (by decide) (fun u9 H locs hw_54 hP hD hK hS => ?_)
        obtain ⟨g_52, rfl⟩ : ∃ z, z = u9 := ⟨_, rfl⟩
        try dsimp only at hw_54
        have hP : va_P (dC, dI) CL [(s0, .inr (10, [.ref a, .ref b, .int (nI 64)])), (a, .inl (ka, 8, .inl f_21)), (b, .inl (kb, 64, .inl g_22)), (r0, .inr (1, [.ref rb, .int (nI 6)])), (rb, .inl (kr, 66, .inl g_52))] H := hP
        have hD : va_D A [(s0, .inr (10, [.ref a, .ref b, .int (nI 64)])), (a, .inl (ka, 8, .inl f_21)), (b, .inl (kb, 64, .inl g_22)), (r0, .inr (1, [.ref rb, .int (nI 6)])), (rb, .inl (kr, 66, .inl g_52))] := hD
        have hK : va_K (dC, dI) CL [(ka, .int), (kb, .int), (kr, .byte)] s := hK
        refine lv_iinc (v := (nI 8)) (lv' := [(5, .int (nI 8)), (4, .int (nI 1)), (0, .ref s0), (1, .ref r0), (2, .int (nI 0)), (3, .int (nI 59))]) hx hb d_Sha_end_104 hl (k := 0) rfl (by decide) (by decide) rfl (fun ls hl => ?_)
        refine lv_goto (tgt := 85) hx hb d_Sha_end_107 (by decide) ?_
        refine lv_iload hx hb d_Sha_end_85 (lv_at hl 0 rfl) ?_
        refine lv_if_lt (tgt := 110) hx hb d_Sha_end_87 (by decide) (fun c87 => absurd c87 (by decide)) (fun c87 => ?_)
        refine lv_aload_n hx hb d_Sha_end_90 rfl (lv_at hl 3 rfl) ?_
        refine lv_aload_n hx hb d_Sha_end_91 rfl (lv_at hl 2 rfl) ?_
        refine va_get (D := (dC, dI)) (ci := 10) (v := .ref a) (C := R_Sha) (T := F_Sha) (N := 3) hx hb hts i_Sha hown hK hP 0 rfl rfl 0 (by decide) (hts _ m_50) (fun _ h9 => h9) rfl d_Sha_end_92 ?_
        refine lv_iload hx hb d_Sha_end_95 (lv_at hl 1 rfl) ?_
        refine kv_iald hx hb hK hP 1 0 rfl rfl (by omega) (by omega) d_Sha_end_97 ?_
        refine lv_topi (fun v_55 _ => ?_)
        refine lv_iload hx hb d_Sha_end_98 (lv_at hl 0 rfl) ?_
        refine lv_iushr hx hb d_Sha_end_100 rfl ?_
        refine lv_topi (fun v_56 _ => ?_)
        refine k_finv (wr := [(s0, .inr (10, [.ref a, .ref b, .int (nI 64)])), (a, .inl (ka, 8, .inl f_21)), (b, .inl (kb, 64, .inl g_22))]) [3, 4] [0, 1, 2] (k_runV (n := 1) (As := [.int v_56]) (rest := []) (wc := [(r0, .inr (1, [.ref rb, .int (nI 6)])), (rb, .inl (kr, 66, .inl g_52))]) ⟨hx, hb, hml, hown, hts⟩ (c_Row_put l dC dI r0 rb kr 66 6 g_52 v_56 _ (by omega) (by omega)) (kg_V m_223 m_156 m_157 m_10 (kg_code m_154)) (by decide +kernel) rfl rfl ⟨Nat.le_of_ble_eq_true rfl, Nat.le_of_ble_eq_true rfl⟩ [3, 4] [2] hP hD hK hS hA hZ hN (by rfl) (by decide) (by rfl) rfl rfl rfl rfl hl.1 rfl (Nat.le_of_ble_eq_true rfl) d_Sha_end_101 ⟨(Nat.le_of_ble_eq_true rfl), (Nat.le_of_ble_eq_true rfl)⟩) hP hD hK hS hA (by rfl) (by rfl) (by decide) (by decide) (fun u9 H locs hw_59 hP hD hK hS => ?_)
        obtain ⟨g_57, rfl⟩ : ∃ z, z = u9 := ⟨_, rfl⟩
        try dsimp only at hw_59
        have hP : va_P (dC, dI) CL [(s0, .inr (10, [.ref a, .ref b, .int (nI 64)])), (a, .inl (ka, 8, .inl f_21)), (b, .inl (kb, 64, .inl g_22)), (r0, .inr (1, [.ref rb, .int (nI 7)])), (rb, .inl (kr, 66, .inl g_57))] H := hP
        have hD : va_D A [(s0, .inr (10, [.ref a, .ref b, .int (nI 64)])), (a, .inl (ka, 8, .inl f_21)), (b, .inl (kb, 64, .inl g_22)), (r0, .inr (1, [.ref rb, .int (nI 7)])), (rb, .inl (kr, 66, .inl g_57))] := hD
        have hK : va_K (dC, dI) CL [(ka, .int), (kb, .int), (kr, .byte)] s := hK
        refine lv_iinc (v := (nI 0)) (lv' := [(5, .int (nI 0)), (4, .int (nI 1)), (0, .ref s0), (1, .ref r0), (2, .int (nI 0)), (3, .int (nI 59))]) hx hb d_Sha_end_104 hl (k := 0) rfl (by decide) (by decide) rfl (fun ls hl => ?_)
        refine lv_goto (tgt := 85) hx hb d_Sha_end_107 (by decide) ?_
        refine lv_iload hx hb d_Sha_end_85 (lv_at hl 0 rfl) ?_
        refine lv_if_lt (tgt := 110) hx hb d_Sha_end_87 (by decide) (fun c87 => absurd c87 (by decide)) (fun c87 => ?_)
        refine lv_aload_n hx hb d_Sha_end_90 rfl (lv_at hl 3 rfl) ?_
        refine lv_aload_n hx hb d_Sha_end_91 rfl (lv_at hl 2 rfl) ?_
        refine va_get (D := (dC, dI)) (ci := 10) (v := .ref a) (C := R_Sha) (T := F_Sha) (N := 3) hx hb hts i_Sha hown hK hP 0 rfl rfl 0 (by decide) (hts _ m_50) (fun _ h9 => h9) rfl d_Sha_end_92 ?_
        refine lv_iload hx hb d_Sha_end_95 (lv_at hl 1 rfl) ?_
        refine kv_iald hx hb hK hP 1 0 rfl rfl (by omega) (by omega) d_Sha_end_97 ?_
        refine lv_topi (fun v_60 _ => ?_)
        refine lv_iload hx hb d_Sha_end_98 (lv_at hl 0 rfl) ?_
        refine lv_iushr hx hb d_Sha_end_100 rfl ?_
        refine lv_topi (fun v_61 _ => ?_)
        refine k_finv (wr := [(s0, .inr (10, [.ref a, .ref b, .int (nI 64)])), (a, .inl (ka, 8, .inl f_21)), (b, .inl (kb, 64, .inl g_22))]) [3, 4] [0, 1, 2] (k_runV (n := 1) (As := [.int v_61]) (rest := []) (wc := [(r0, .inr (1, [.ref rb, .int (nI 7)])), (rb, .inl (kr, 66, .inl g_57))]) ⟨hx, hb, hml, hown, hts⟩ (c_Row_put l dC dI r0 rb kr 66 7 g_57 v_61 _ (by omega) (by omega)) (kg_V m_223 m_156 m_157 m_10 (kg_code m_154)) (by decide +kernel) rfl rfl ⟨Nat.le_of_ble_eq_true rfl, Nat.le_of_ble_eq_true rfl⟩ [3, 4] [2] hP hD hK hS hA hZ hN (by rfl) (by decide) (by rfl) rfl rfl rfl rfl hl.1 rfl (Nat.le_of_ble_eq_true rfl) d_Sha_end_101 ⟨(Nat.le_of_ble_eq_true rfl), (Nat.le_of_ble_eq_true rfl)⟩) hP hD hK hS hA (by rfl) (by rfl) (by decide) (by decide) (fun u9 H locs hw_64 hP hD hK hS => ?_)
        obtain ⟨g_62, rfl⟩ : ∃ z, z = u9 := ⟨_, rfl⟩
        try dsimp only at hw_64
        have hP : va_P (dC, dI) CL [(s0, .inr (10, [.ref a, .ref b, .int (nI 64)])), (a, .inl (ka, 8, .inl f_21)), (b, .inl (kb, 64, .inl g_22)), (r0, .inr (1, [.ref rb, .int (nI 8)])), (rb, .inl (kr, 66, .inl g_62))] H := hP
        have hD : va_D A [(s0, .inr (10, [.ref a, .ref b, .int (nI 64)])), (a, .inl (ka, 8, .inl f_21)), (b, .inl (kb, 64, .inl g_22)), (r0, .inr (1, [.ref rb, .int (nI 8)])), (rb, .inl (kr, 66, .inl g_62))] := hD
        have hK : va_K (dC, dI) CL [(ka, .int), (kb, .int), (kr, .byte)] s := hK
        refine lv_iinc (v := (-8)) (lv' := [(5, .int (-8)), (4, .int (nI 1)), (0, .ref s0), (1, .ref r0), (2, .int (nI 0)), (3, .int (nI 59))]) hx hb d_Sha_end_104 hl (k := 0) rfl (by decide) (by decide) rfl (fun ls hl => ?_)
        refine lv_goto (tgt := 85) hx hb d_Sha_end_107 (by decide) ?_
        refine lv_iload hx hb d_Sha_end_85 (lv_at hl 0 rfl) ?_
        refine lv_if_lt (tgt := 110) hx hb d_Sha_end_87 (by decide) (fun c87 => ?_) (fun c87 => absurd (by decide) c87)
        refine lv_iinc (v := (nI 2)) (lv' := [(4, .int (nI 2)), (5, .int (-8)), (0, .ref s0), (1, .ref r0), (2, .int (nI 0)), (3, .int (nI 59))]) hx hb d_Sha_end_110 hl (k := 1) rfl (k_inc _) (by decide) rfl (fun ls hl => ?_)
        refine lv_goto (tgt := 74) hx hb d_Sha_end_113 (by decide) ?_
        refine lv_iload hx hb d_Sha_end_74 (lv_at hl 0 rfl) ?_
        refine lv_bipush (v := (nI 8)) hx hb d_Sha_end_76 (by decide +kernel) ?_
        refine lv_icmp_ge (tgt := 116) hx hb d_Sha_end_78 (by decide) (fun c78 => absurd c78 (by decide)) (fun c78 => ?_)
        refine lv_bipush (v := (nI 24)) hx hb d_Sha_end_81 (by decide +kernel) ?_
        refine lv_istore (lv' := [(5, .int (nI 24)), (4, .int (nI 2)), (0, .ref s0), (1, .ref r0), (2, .int (nI 0)), (3, .int (nI 59))]) hx hb d_Sha_end_83 hl (by decide) rfl (fun ls hl => ?_)
        refine lv_iload hx hb d_Sha_end_85 (lv_at hl 0 rfl) ?_
        refine lv_if_lt (tgt := 110) hx hb d_Sha_end_87 (by decide) (fun c87 => absurd c87 (by decide)) (fun c87 => ?_)
        refine lv_aload_n hx hb d_Sha_end_90 rfl (lv_at hl 3 rfl) ?_
        refine lv_aload_n hx hb d_Sha_end_91 rfl (lv_at hl 2 rfl) ?_
        refine va_get (D := (dC, dI)) (ci := 10) (v := .ref a) (C := R_Sha) (T := F_Sha) (N := 3) hx hb hts i_Sha hown hK hP 0 rfl rfl 0 (by decide) (hts _ m_50) (fun _ h9 => h9) rfl d_Sha_end_92 ?_
        refine lv_iload hx hb d_Sha_end_95 (lv_at hl 1 rfl) ?_
        refine kv_iald hx hb hK hP 1 0 rfl rfl (by omega) (by omega) d_Sha_end_97 ?_
        refine lv_topi (fun v_65 _ => ?_)
        refine lv_iload hx hb d_Sha_end_98 (lv_at hl 0 rfl) ?_
        refine lv_iushr hx hb d_Sha_end_100 rfl ?_
        refine lv_topi (fun v_66 _ => ?_)
        refine k_finv (wr := [(s0, .inr (10, [.ref a, .ref b, .int (nI 64)])), (a, .inl (ka, 8, .inl f_21)), (b, .inl (kb, 64, .inl g_22))]) [3, 4] [0, 1, 2] (k_runV (n := 1) (As := [.int v_66]) (rest := []) (wc := [(r0, .inr (1, [.ref rb, .int (nI 8)])), (rb, .inl (kr, 66, .inl g_62))]) ⟨hx, hb, hml, hown, hts⟩ (c_Row_put l dC dI r0 rb kr 66 8 g_62 v_66 _ (by omega) (by omega)) (kg_V m_223 m_156 m_157 m_10 (kg_code m_154)) (by decide +kernel) rfl rfl ⟨Nat.le_of_ble_eq_true rfl, Nat.le_of_ble_eq_true rfl⟩ [3, 4] [2] hP hD hK hS hA hZ hN (by rfl) (by decide) (by rfl) rfl rfl rfl rfl hl.1 rfl (Nat.le_of_ble_eq_true rfl) d_Sha_end_101 ⟨(Nat.le_of_ble_eq_true rfl), (Nat.le_of_ble_eq_true rfl)⟩) hP hD hK hS hA (by rfl) (by rfl) (by decide) (by decide) (fun u9 H locs hw_69 hP hD hK hS => ?_)
        obtain ⟨g_67, rfl⟩ : ∃ z, z = u9 := ⟨_, rfl⟩
        try dsimp only at hw_69
        have hP : va_P (dC, dI) CL [(s0, .inr (10, [.ref a, .ref b, .int (nI 64)])), (a, .inl (ka, 8, .inl f_21)), (b, .inl (kb, 64, .inl g_22)), (r0, .inr (1, [.ref rb, .int (nI 9)])), (rb, .inl (kr, 66, .inl g_67))] H := hP
        have hD : va_D A [(s0, .inr (10, [.ref a, .ref b, .int (nI 64)])), (a, .inl (ka, 8, .inl f_21)), (b, .inl (kb, 64, .inl g_22)), (r0, .inr (1, [.ref rb, .int (nI 9)])), (rb, .inl (kr, 66, .inl g_67))] := hD
        have hK : va_K (dC, dI) CL [(ka, .int), (kb, .int), (kr, .byte)] s := hK
        refine lv_iinc (v := (nI 16)) (lv' := [(5, .int (nI 16)), (4, .int (nI 2)), (0, .ref s0), (1, .ref r0), (2, .int (nI 0)), (3, .int (nI 59))]) hx hb d_Sha_end_104 hl (k := 0) rfl (by decide) (by decide) rfl (fun ls hl => ?_)
        refine lv_goto (tgt := 85) hx hb d_Sha_end_107 (by decide) ?_
        refine lv_iload hx hb d_Sha_end_85 (lv_at hl 0 rfl) ?_
        refine lv_if_lt (tgt := 110) hx hb d_Sha_end_87 (by decide) (fun c87 => absurd c87 (by decide)) (fun c87 => ?_)
        refine lv_aload_n hx hb d_Sha_end_90 rfl (lv_at hl 3 rfl) ?_
        refine lv_aload_n hx hb d_Sha_end_91 rfl (lv_at hl 2 rfl) ?_
        refine va_get (D := (dC, dI)) (ci := 10) (v := .ref a) (C := R_Sha) (T := F_Sha) (N := 3) hx hb hts i_Sha hown hK hP 0 rfl rfl 0 (by decide) (hts _ m_50) (fun _ h9 => h9) rfl d_Sha_end_92 ?_
        refine lv_iload hx hb d_Sha_end_95 (lv_at hl 1 rfl) ?_
        refine kv_iald hx hb hK hP 1 0 rfl rfl (by omega) (by omega) d_Sha_end_97 ?_
        refine lv_topi (fun v_70 _ => ?_)
        refine lv_iload hx hb d_Sha_end_98 (lv_at hl 0 rfl) ?_
        refine lv_iushr hx hb d_Sha_end_100 rfl ?_
        refine lv_topi (fun v_71 _ => ?_)
        refine k_finv (wr := [(s0, .inr (10, [.ref a, .ref b, .int (nI 64)])), (a, .inl (ka, 8, .inl f_21)), (b, .inl (kb, 64, .inl g_22))]) [3, 4] [0, 1, 2] (k_runV (n := 1) (As := [.int v_71]) (rest := []) (wc := [(r0, .inr (1, [.ref rb, .int (nI 9)])), (rb, .inl (kr, 66, .inl g_67))]) ⟨hx, hb, hml, hown, hts⟩ (c_Row_put l dC dI r0 rb kr 66 9 g_67 v_71 _ (by omega) (by omega)) (kg_V m_223 m_156 m_157 m_10 (kg_code m_154)) (by decide +kernel) rfl rfl ⟨Nat.le_of_ble_eq_true rfl, Nat.le_of_ble_eq_true rfl⟩ [3, 4] [2] hP hD hK hS hA hZ hN (by rfl) (by decide) (by rfl) rfl rfl rfl rfl hl.1 rfl (Nat.le_of_ble_eq_true rfl) d_Sha_end_101 ⟨(Nat.le_of_ble_eq_true rfl), (Nat.le_of_ble_eq_true rfl)⟩) hP hD hK hS hA (by rfl) (by rfl) (by decide) (by decide) (fun u9 H locs hw_74 hP hD hK hS => ?_)
        obtain ⟨g_72, rfl⟩ : ∃ z, z = u9 := ⟨_, rfl⟩
        try dsimp only at hw_74
        have hP : va_P (dC, dI) CL [(s0, .inr (10, [.ref a, .ref b, .int (nI 64)])), (a, .inl (ka, 8, .inl f_21)), (b, .inl (kb, 64, .inl g_22)), (r0, .inr (1, [.ref rb, .int (nI 10)])), (rb, .inl (kr, 66, .inl g_72))] H := hP
        have hD : va_D A [(s0, .inr (10, [.ref a, .ref b, .int (nI 64)])), (a, .inl (ka, 8, .inl f_21)), (b, .inl (kb, 64, .inl g_22)), (r0, .inr (1, [.ref rb, .int (nI 10)])), (rb, .inl (kr, 66, .inl g_72))] := hD
        have hK : va_K (dC, dI) CL [(ka, .int), (kb, .int), (kr, .byte)] s := hK
        refine lv_iinc (v := (nI 8)) (lv' := [(5, .int (nI 8)), (4, .int (nI 2)), (0, .ref s0), (1, .ref r0), (2, .int (nI 0)), (3, .int (nI 59))]) hx hb d_Sha_end_104 hl (k := 0) rfl (by decide) (by decide) rfl (fun ls hl => ?_)
        refine lv_goto (tgt := 85) hx hb d_Sha_end_107 (by decide) ?_
        refine lv_iload hx hb d_Sha_end_85 (lv_at hl 0 rfl) ?_
        refine lv_if_lt (tgt := 110) hx hb d_Sha_end_87 (by decide) (fun c87 => absurd c87 (by decide)) (fun c87 => ?_)
        refine lv_aload_n hx hb d_Sha_end_90 rfl (lv_at hl 3 rfl) ?_
        refine lv_aload_n hx hb d_Sha_end_91 rfl (lv_at hl 2 rfl) ?_
        refine va_get (D := (dC, dI)) (ci := 10) (v := .ref a) (C := R_Sha) (T := F_Sha) (N := 3) hx hb hts i_Sha hown hK hP 0 rfl rfl 0 (by decide) (hts _ m_50) (fun _ h9 => h9) rfl d_Sha_end_92 ?_
        refine lv_iload hx hb d_Sha_end_95 (lv_at hl 1 rfl) ?_
        refine kv_iald hx hb hK hP 1 0 rfl rfl (by omega) (by omega) d_Sha_end_97 ?_
        refine lv_topi (fun v_75 _ => ?_)
        refine lv_iload hx hb d_Sha_end_98 (lv_at hl 0 rfl) ?_
        refine lv_iushr hx hb d_Sha_end_100 rfl ?_
        refine lv_topi (fun v_76 _ => ?_)
        refine k_finv (wr := [(s0, .inr (10, [.ref a, .ref b, .int (nI 64)])), (a, .inl (ka, 8, .inl f_21)), (b, .inl (kb, 64, .inl g_22))]) [3, 4] [0, 1, 2] (k_runV (n := 1) (As := [.int v_76]) (rest := []) (wc := [(r0, .inr (1, [.ref rb, .int (nI 10)])), (rb, .inl (kr, 66, .inl g_72))]) ⟨hx, hb, hml, hown, hts⟩ (c_Row_put l dC dI r0 rb kr 66 10 g_72 v_76 _ (by omega) (by omega)) (kg_V m_223 m_156 m_157 m_10 (kg_code m_154)) (by decide +kernel) rfl rfl ⟨Nat.le_of_ble_eq_true rfl, Nat.le_of_ble_eq_true rfl⟩ [3, 4] [2] hP hD hK hS hA hZ hN (by rfl) (by decide) (by rfl) rfl rfl rfl rfl hl.1 rfl (Nat.le_of_ble_eq_true rfl) d_Sha_end_101 ⟨(Nat.le_of_ble_eq_true rfl), (Nat.le_of_ble_eq_true rfl)⟩) hP hD hK hS hA (by rfl) (by rfl) (by decide) (by decide) (fun u9 H locs hw_79 hP hD hK hS => ?_)
        obtain ⟨g_77, rfl⟩ : ∃ z, z = u9 := ⟨_, rfl⟩
        try dsimp only at hw_79
        have hP : va_P (dC, dI) CL [(s0, .inr (10, [.ref a, .ref b, .int (nI 64)])), (a, .inl (ka, 8, .inl f_21)), (b, .inl (kb, 64, .inl g_22)), (r0, .inr (1, [.ref rb, .int (nI 11)])), (rb, .inl (kr, 66, .inl g_77))] H := hP
        have hD : va_D A [(s0, .inr (10, [.ref a, .ref b, .int (nI 64)])), (a, .inl (ka, 8, .inl f_21)), (b, .inl (kb, 64, .inl g_22)), (r0, .inr (1, [.ref rb, .int (nI 11)])), (rb, .inl (kr, 66, .inl g_77))] := hD
        have hK : va_K (dC, dI) CL [(ka, .int), (kb, .int), (kr, .byte)] s := hK
        refine lv_iinc (v := (nI 0)) (lv' := [(5, .int (nI 0)), (4, .int (nI 2)), (0, .ref s0), (1, .ref r0), (2, .int (nI 0)), (3, .int (nI 59))]) hx hb d_Sha_end_104 hl (k := 0) rfl (by decide) (by decide) rfl (fun ls hl => ?_)
        refine lv_goto (tgt := 85) hx hb d_Sha_end_107 (by decide) ?_
        refine lv_iload hx hb d_Sha_end_85 (lv_at hl 0 rfl) ?_
        refine lv_if_lt (tgt := 110) hx hb d_Sha_end_87 (by decide) (fun c87 => absurd c87 (by decide)) (fun c87 => ?_)
        refine lv_aload_n hx hb d_Sha_end_90 rfl (lv_at hl 3 rfl) ?_
        refine lv_aload_n hx hb d_Sha_end_91 rfl (lv_at hl 2 rfl) ?_
        refine va_get (D := (dC, dI)) (ci := 10) (v := .ref a) (C := R_Sha) (T := F_Sha) (N := 3) hx hb hts i_Sha hown hK hP 0 rfl rfl 0 (by decide) (hts _ m_50) (fun _ h9 => h9) rfl d_Sha_end_92 ?_
        refine lv_iload hx hb d_Sha_end_95 (lv_at hl 1 rfl) ?_
        refine kv_iald hx hb hK hP 1 0 rfl rfl (by omega) (by omega) d_Sha_end_97 ?_
        refine lv_topi (fun v_80 _ => ?_)
        refine lv_iload hx hb d_Sha_end_98 (lv_at hl 0 rfl) ?_
        refine lv_iushr hx hb d_Sha_end_100 rfl ?_
        refine lv_topi (fun v_81 _ => ?_)
        refine k_finv (wr := [(s0, .inr (10, [.ref a, .ref b, .int (nI 64)])), (a, .inl (ka, 8, .inl f_21)), (b, .inl (kb, 64, .inl g_22))]) [3, 4] [0, 1, 2] (k_runV (n := 1) (As := [.int v_81]) (rest := []) (wc := [(r0, .inr (1, [.ref rb, .int (nI 11)])), (rb, .inl (kr, 66, .inl g_77))]) ⟨hx, hb, hml, hown, hts⟩ (c_Row_put l dC dI r0 rb kr 66 11 g_77 v_81 _ (by omega) (by omega)) (kg_V m_223 m_156 m_157 m_10 (kg_code m_154)) (by decide +kernel) rfl rfl ⟨Nat.le_of_ble_eq_true rfl, Nat.le_of_ble_eq_true rfl⟩ [3, 4] [2] hP hD hK hS hA hZ hN (by rfl) (by decide) (by rfl) rfl rfl rfl rfl hl.1 rfl (Nat.le_of_ble_eq_true rfl) d_Sha_end_101 ⟨(Nat.le_of_ble_eq_true rfl), (Nat.le_of_ble_eq_true rfl)⟩) hP hD hK hS hA (by rfl) (by rfl) (by decide) (by decide) (fun u9 H locs hw_84 hP hD hK hS => ?_)
        obtain ⟨g_82, rfl⟩ : ∃ z, z = u9 := ⟨_, rfl⟩
        try dsimp only at hw_84
        have hP : va_P (dC, dI) CL [(s0, .inr (10, [.ref a, .ref b, .int (nI 64)])), (a, .inl (ka, 8, .inl f_21)), (b, .inl (kb, 64, .inl g_22)), (r0, .inr (1, [.ref rb, .int (nI 12)])), (rb, .inl (kr, 66, .inl g_82))] H := hP
        have hD : va_D A [(s0, .inr (10, [.ref a, .ref b, .int (nI 64)])), (a, .inl (ka, 8, .inl f_21)), (b, .inl (kb, 64, .inl g_22)), (r0, .inr (1, [.ref rb, .int (nI 12)])), (rb, .inl (kr, 66, .inl g_82))] := hD
        have hK : va_K (dC, dI) CL [(ka, .int), (kb, .int), (kr, .byte)] s := hK
        refine lv_iinc (v := (-8)) (lv' := [(5, .int (-8)), (4, .int (nI 2)), (0, .ref s0), (1, .ref r0), (2, .int (nI 0)), (3, .int (nI 59))]) hx hb d_Sha_end_104 hl (k := 0) rfl (by decide) (by decide) rfl (fun ls hl => ?_)
        refine lv_goto (tgt := 85) hx hb d_Sha_end_107 (by decide) ?_
        refine lv_iload hx hb d_Sha_end_85 (lv_at hl 0 rfl) ?_
        refine lv_if_lt (tgt := 110) hx hb d_Sha_end_87 (by decide) (fun c87 => ?_) (fun c87 => absurd (by decide) c87)
        refine lv_iinc (v := (nI 3)) (lv' := [(4, .int (nI 3)), (5, .int (-8)), (0, .ref s0), (1, .ref r0), (2, .int (nI 0)), (3, .int (nI 59))]) hx hb d_Sha_end_110 hl (k := 1) rfl (k_inc _) (by decide) rfl (fun ls hl => ?_)
        refine lv_goto (tgt := 74) hx hb d_Sha_end_113 (by decide) ?_
        refine lv_iload hx hb d_Sha_end_74 (lv_at hl 0 rfl) ?_
        refine lv_bipush (v := (nI 8)) hx hb d_Sha_end_76 (by decide +kernel) ?_
        refine lv_icmp_ge (tgt := 116) hx hb d_Sha_end_78 (by decide) (fun c78 => absurd c78 (by decide)) (fun c78 => ?_)
        refine lv_bipush (v := (nI 24)) hx hb d_Sha_end_81 (by decide +kernel) ?_
        refine lv_istore (lv' := [(5, .int (nI 24)), (4, .int (nI 3)), (0, .ref s0), (1, .ref r0), (2, .int (nI 0)), (3, .int (nI 59))]) hx hb d_Sha_end_83 hl (by decide) rfl (fun ls hl => ?_)
        refine lv_iload hx hb d_Sha_end_85 (lv_at hl 0 rfl) ?_
        refine lv_if_lt (tgt := 110) hx hb d_Sha_end_87 (by decide) (fun c87 => absurd c87 (by decide)) (fun c87 => ?_)
        refine lv_aload_n hx hb d_Sha_end_90 rfl (lv_at hl 3 rfl) ?_
        refine lv_aload_n hx hb d_Sha_end_91 rfl (lv_at hl 2 rfl) ?_
        refine va_get (D := (dC, dI)) (ci := 10) (v := .ref a) (C := R_Sha) (T := F_Sha) (N := 3) hx hb hts i_Sha hown hK hP 0 rfl rfl 0 (by decide) (hts _ m_50) (fun _ h9 => h9) rfl d_Sha_end_92 ?_
        refine lv_iload hx hb d_Sha_end_95 (lv_at hl 1 rfl) ?_
        refine kv_iald hx hb hK hP 1 0 rfl rfl (by omega) (by omega) d_Sha_end_97 ?_
        refine lv_topi (fun v_85 _ => ?_)
        refine lv_iload hx hb d_Sha_end_98 (lv_at hl 0 rfl) ?_
        refine lv_iushr hx hb d_Sha_end_100 rfl ?_
        refine lv_topi (fun v_86 _ => ?_)
        refine k_finv (wr := [(s0, .inr (10, [.ref a, .ref b, .int (nI 64)])), (a, .inl (ka, 8, .inl f_21)), (b, .inl (kb, 64, .inl g_22))]) [3, 4] [0, 1, 2] (k_runV (n := 1) (As := [.int v_86]) (rest := []) (wc := [(r0, .inr (1, [.ref rb, .int (nI 12)])), (rb, .inl (kr, 66, .inl g_82))]) ⟨hx, hb, hml, hown, hts⟩ (c_Row_put l dC dI r0 rb kr 66 12 g_82 v_86 _ (by omega) (by omega)) (kg_V m_223 m_156 m_157 m_10 (kg_code m_154)) (by decide +kernel) rfl rfl ⟨Nat.le_of_ble_eq_true rfl, Nat.le_of_ble_eq_true rfl⟩ [3, 4] [2] hP hD hK hS hA hZ hN (by rfl) (by decide) (by rfl) rfl rfl rfl rfl hl.1 rfl (Nat.le_of_ble_eq_true rfl) d_Sha_end_101 ⟨(Nat.le_of_ble_eq_true rfl), (Nat.le_of_ble_eq_true rfl)⟩) hP hD hK hS hA (by rfl) (by rfl) (by decide) (by decide) (fun u9 H locs hw_89 hP hD hK hS => ?_)
        obtain ⟨g_87, rfl⟩ : ∃ z, z = u9 := ⟨_, rfl⟩
        try dsimp only at hw_89
        have hP : va_P (dC, dI) CL [(s0, .inr (10, [.ref a, .ref b, .int (nI 64)])), (a, .inl (ka, 8, .inl f_21)), (b, .inl (kb, 64, .inl g_22)), (r0, .inr (1, [.ref rb, .int (nI 13)])), (rb, .inl (kr, 66, .inl g_87))] H := hP
        have hD : va_D A [(s0, .inr (10, [.ref a, .ref b, .int (nI 64)])), (a, .inl (ka, 8, .inl f_21)), (b, .inl (kb, 64, .inl g_22)), (r0, .inr (1, [.ref rb, .int (nI 13)])), (rb, .inl (kr, 66, .inl g_87))] := hD
        have hK : va_K (dC, dI) CL [(ka, .int), (kb, .int), (kr, .byte)] s := hK
        refine lv_iinc (v := (nI 16)) (lv' := [(5, .int (nI 16)), (4, .int (nI 3)), (0, .ref s0), (1, .ref r0), (2, .int (nI 0)), (3, .int (nI 59))]) hx hb d_Sha_end_104 hl (k := 0) rfl (by decide) (by decide) rfl (fun ls hl => ?_)
        refine lv_goto (tgt := 85) hx hb d_Sha_end_107 (by decide) ?_
        refine lv_iload hx hb d_Sha_end_85 (lv_at hl 0 rfl) ?_
        refine lv_if_lt (tgt := 110) hx hb d_Sha_end_87 (by decide) (fun c87 => absurd c87 (by decide)) (fun c87 => ?_)
        refine lv_aload_n hx hb d_Sha_end_90 rfl (lv_at hl 3 rfl) ?_
        refine lv_aload_n hx hb d_Sha_end_91 rfl (lv_at hl 2 rfl) ?_
        refine va_get (D := (dC, dI)) (ci := 10) (v := .ref a) (C := R_Sha) (T := F_Sha) (N := 3) hx hb hts i_Sha hown hK hP 0 rfl rfl 0 (by decide) (hts _ m_50) (fun _ h9 => h9) rfl d_Sha_end_92 ?_
        refine lv_iload hx hb d_Sha_end_95 (lv_at hl 1 rfl) ?_
        refine kv_iald hx hb hK hP 1 0 rfl rfl (by omega) (by omega) d_Sha_end_97 ?_
        refine lv_topi (fun v_90 _ => ?_)
        refine lv_iload hx hb d_Sha_end_98 (lv_at hl 0 rfl) ?_
        refine lv_iushr hx hb d_Sha_end_100 rfl ?_
        refine lv_topi (fun v_91 _ => ?_)
        refine k_finv (wr := [(s0, .inr (10, [.ref a, .ref b, .int (nI 64)])), (a, .inl (ka, 8, .inl f_21)), (b, .inl (kb, 64, .inl g_22))]) [3, 4] [0, 1, 2] (k_runV (n := 1) (As := [.int v_91]) (rest := []) (wc := [(r0, .inr (1, [.ref rb, .int (nI 13)])), (rb, .inl (kr, 66, .inl g_87))]) ⟨hx, hb, hml, hown, hts⟩ (c_Row_put l dC dI r0 rb kr 66 13 g_87 v_91 _ (by omega) (by omega)) (kg_V m_223 m_156 m_157 m_10 (kg_code m_154)) (by decide +kernel) rfl rfl ⟨Nat.le_of_ble_eq_true rfl, Nat.le_of_ble_eq_true rfl⟩ [3, 4] [2] hP hD hK hS hA hZ hN (by rfl) (by decide) (by rfl) rfl rfl rfl rfl hl.1 rfl (Nat.le_of_ble_eq_true rfl) d_Sha_end_101 ⟨(Nat.le_of_ble_eq_true rfl), (Nat.le_of_ble_eq_true rfl)⟩) hP hD hK hS hA (by rfl) (by rfl) (by decide) (by decide) (fun u9 H locs hw_94 hP hD hK hS => ?_)
        obtain ⟨g_92, rfl⟩ : ∃ z, z = u9 := ⟨_, rfl⟩
        try dsimp only at hw_94
        have hP : va_P (dC, dI) CL [(s0, .inr (10, [.ref a, .ref b, .int (nI 64)])), (a, .inl (ka, 8, .inl f_21)), (b, .inl (kb, 64, .inl g_22)), (r0, .inr (1, [.ref rb, .int (nI 14)])), (rb, .inl (kr, 66, .inl g_92))] H := hP
        have hD : va_D A [(s0, .inr (10, [.ref a, .ref b, .int (nI 64)])), (a, .inl (ka, 8, .inl f_21)), (b, .inl (kb, 64, .inl g_22)), (r0, .inr (1, [.ref rb, .int (nI 14)])), (rb, .inl (kr, 66, .inl g_92))] := hD
        have hK : va_K (dC, dI) CL [(ka, .int), (kb, .int), (kr, .byte)] s := hK
        refine lv_iinc (v := (nI 8)) (lv' := [(5, .int (nI 8)), (4, .int (nI 3)), (0, .ref s0), (1, .ref r0), (2, .int (nI 0)), (3, .int (nI 59))]) hx hb d_Sha_end_104 hl (k := 0) rfl (by decide) (by decide) rfl (fun ls hl => ?_)
        refine lv_goto (tgt := 85) hx hb d_Sha_end_107 (by decide) ?_
        refine lv_iload hx hb d_Sha_end_85 (lv_at hl 0 rfl) ?_
        refine lv_if_lt (tgt := 110) hx hb d_Sha_end_87 (by decide) (fun c87 => absurd c87 (by decide)) (fun c87 => ?_)
        refine lv_aload_n hx hb d_Sha_end_90 rfl (lv_at hl 3 rfl) ?_
        refine lv_aload_n hx hb d_Sha_end_91 rfl (lv_at hl 2 rfl) ?_
        refine va_get (D := (dC, dI)) (ci := 10) (v := .ref a) (C := R_Sha) (T := F_Sha) (N := 3) hx hb hts i_Sha hown hK hP 0 rfl rfl 0 (by decide) (hts _ m_50) (fun _ h9 => h9) rfl d_Sha_end_92 ?_
        refine lv_iload hx hb d_Sha_end_95 (lv_at hl 1 rfl) ?_
        refine kv_iald hx hb hK hP 1 0 rfl rfl (by omega) (by omega) d_Sha_end_97 ?_
        refine lv_topi (fun v_95 _ => ?_)
        refine lv_iload hx hb d_Sha_end_98 (lv_at hl 0 rfl) ?_
        refine lv_iushr hx hb d_Sha_end_100 rfl ?_
        refine lv_topi (fun v_96 _ => ?_)
        refine k_finv (wr := [(s0, .inr (10, [.ref a, .ref b, .int (nI 64)])), (a, .inl (ka, 8, .inl f_21)), (b, .inl (kb, 64, .inl g_22))]) [3, 4] [0, 1, 2] (k_runV (n := 1) (As := [.int v_96]) (rest := []) (wc := [(r0, .inr (1, [.ref rb, .int (nI 14)])), (rb, .inl (kr, 66, .inl g_92))]) ⟨hx, hb, hml, hown, hts⟩ (c_Row_put l dC dI r0 rb kr 66 14 g_92 v_96 _ (by omega) (by omega)) (kg_V m_223 m_156 m_157 m_10 (kg_code m_154)) (by decide +kernel) rfl rfl ⟨Nat.le_of_ble_eq_true rfl, Nat.le_of_ble_eq_true rfl⟩ [3, 4] [2] hP hD hK hS hA hZ hN (by rfl) (by decide) (by rfl) rfl rfl rfl rfl hl.1 rfl (Nat.le_of_ble_eq_true rfl) d_Sha_end_101 ⟨(Nat.le_of_ble_eq_true rfl), (Nat.le_of_ble_eq_true rfl)⟩) hP hD hK hS hA (by rfl) (by rfl) (by decide) (by decide) (fun u9 H locs hw_99 hP hD hK hS => ?_)
        obtain ⟨g_97, rfl⟩ : ∃ z, z = u9 := ⟨_, rfl⟩
        try dsimp only at hw_99
        have hP : va_P (dC, dI) CL [(s0, .inr (10, [.ref a, .ref b, .int (nI 64)])), (a, .inl (ka, 8, .inl f_21)), (b, .inl (kb, 64, .inl g_22)), (r0, .inr (1, [.ref rb, .int (nI 15)])), (rb, .inl (kr, 66, .inl g_97))] H := hP
        have hD : va_D A [(s0, .inr (10, [.ref a, .ref b, .int (nI 64)])), (a, .inl (ka, 8, .inl f_21)), (b, .inl (kb, 64, .inl g_22)), (r0, .inr (1, [.ref rb, .int (nI 15)])), (rb, .inl (kr, 66, .inl g_97))] := hD
        have hK : va_K (dC, dI) CL [(ka, .int), (kb, .int), (kr, .byte)] s := hK
        refine lv_iinc (v := (nI 0)) (lv' := [(5, .int (nI 0)), (4, .int (nI 3)), (0, .ref s0), (1, .ref r0), (2, .int (nI 0)), (3, .int (nI 59))]) hx hb d_Sha_end_104 hl (k := 0) rfl (by decide) (by decide) rfl (fun ls hl => ?_)
        refine lv_goto (tgt := 85) hx hb d_Sha_end_107 (by decide) ?_
        refine lv_iload hx hb d_Sha_end_85 (lv_at hl 0 rfl) ?_
        refine lv_if_lt (tgt := 110) hx hb d_Sha_end_87 (by decide) (fun c87 => absurd c87 (by decide)) (fun c87 => ?_)
        refine lv_aload_n hx hb d_Sha_end_90 rfl (lv_at hl 3 rfl) ?_
        refine lv_aload_n hx hb d_Sha_end_91 rfl (lv_at hl 2 rfl) ?_
        refine va_get (D := (dC, dI)) (ci := 10) (v := .ref a) (C := R_Sha) (T := F_Sha) (N := 3) hx hb hts i_Sha hown hK hP 0 rfl rfl 0 (by decide) (hts _ m_50) (fun _ h9 => h9) rfl d_Sha_end_92 ?_
        refine lv_iload hx hb d_Sha_end_95 (lv_at hl 1 rfl) ?_
        refine kv_iald hx hb hK hP 1 0 rfl rfl (by omega) (by omega) d_Sha_end_97 ?_
        refine lv_topi (fun v_100 _ => ?_)
        refine lv_iload hx hb d_Sha_end_98 (lv_at hl 0 rfl) ?_
        refine lv_iushr hx hb d_Sha_end_100 rfl ?_
        refine lv_topi (fun v_101 _ => ?_)
        refine k_finv (wr := [(s0, .inr (10, [.ref a, .ref b, .int (nI 64)])), (a, .inl (ka, 8, .inl f_21)), (b, .inl (kb, 64, .inl g_22))]) [3, 4] [0, 1, 2] (k_runV (n := 1) (As := [.int v_101]) (rest := []) (wc := [(r0, .inr (1, [.ref rb, .int (nI 15)])), (rb, .inl (kr, 66, .inl g_97))]) ⟨hx, hb, hml, hown, hts⟩ (c_Row_put l dC dI r0 rb kr 66 15 g_97 v_101 _ (by omega) (by omega)) (kg_V m_223 m_156 m_157 m_10 (kg_code m_154)) (by decide +kernel) rfl rfl ⟨Nat.le_of_ble_eq_true rfl, Nat.le_of_ble_eq_true rfl⟩ [3, 4] [2] hP hD hK hS hA hZ hN (by rfl) (by decide) (by rfl) rfl rfl rfl rfl hl.1 rfl (Nat.le_of_ble_eq_true rfl) d_Sha_end_101 ⟨(Nat.le_of_ble_eq_true rfl), (Nat.le_of_ble_eq_true rfl)⟩) hP hD hK hS hA (by rfl) (by rfl) (by decide) (by decide) (fun u9 H locs hw_104 hP hD hK hS => ?_)
        obtain ⟨g_102, rfl⟩ : ∃ z, z = u9 := ⟨_, rfl⟩
        try dsimp only at hw_104
        have hP : va_P (dC, dI) CL [(s0, .inr (10, [.ref a, .ref b, .int (nI 64)])), (a, .inl (ka, 8, .inl f_21)), (b, .inl (kb, 64, .inl g_22)), (r0, .inr (1, [.ref rb, .int (nI 16)])), (rb, .inl (kr, 66, .inl g_102))] H := hP
        have hD : va_D A [(s0, .inr (10, [.ref a, .ref b, .int (nI 64)])), (a, .inl (ka, 8, .inl f_21)), (b, .inl (kb, 64, .inl g_22)), (r0, .inr (1, [.ref rb, .int (nI 16)])), (rb, .inl (kr, 66, .inl g_102))] := hD
        have hK : va_K (dC, dI) CL [(ka, .int), (kb, .int), (kr, .byte)] s := hK
        refine lv_iinc (v := (-8)) (lv' := [(5, .int (-8)), (4, .int (nI 3)), (0, .ref s0), (1, .ref r0), (2, .int (nI 0)), (3, .int (nI 59))]) hx hb d_Sha_end_104 hl (k := 0) rfl (by decide) (by decide) rfl (fun ls hl => ?_)
        refine lv_goto (tgt := 85) hx hb d_Sha_end_107 (by decide) ?_
        refine lv_iload hx hb d_Sha_end_85 (lv_at hl 0 rfl) ?_
        refine lv_if_lt (tgt := 110) hx hb d_Sha_end_87 (by decide) (fun c87 => ?_) (fun c87 => absurd (by decide) c87)
        refine lv_iinc (v := (nI 4)) (lv' := [(4, .int (nI 4)), (5, .int (-8)), (0, .ref s0), (1, .ref r0), (2, .int (nI 0)), (3, .int (nI 59))]) hx hb d_Sha_end_110 hl (k := 1) rfl (k_inc _) (by decide) rfl (fun ls hl => ?_)
        refine lv_goto (tgt := 74) hx hb d_Sha_end_113 (by decide) ?_
        refine lv_iload hx hb d_Sha_end_74 (lv_at hl 0 rfl) ?_
        refine lv_bipush (v := (nI 8)) hx hb d_Sha_end_76 (by decide +kernel) ?_
        refine lv_icmp_ge (tgt := 116) hx hb d_Sha_end_78 (by decide) (fun c78 => absurd c78 (by decide)) (fun c78 => ?_)
        refine lv_bipush (v := (nI 24)) hx hb d_Sha_end_81 (by decide +kernel) ?_
        refine lv_istore (lv' := [(5, .int (nI 24)), (4, .int (nI 4)), (0, .ref s0), (1, .ref r0), (2, .int (nI 0)), (3, .int (nI 59))]) hx hb d_Sha_end_83 hl (by decide) rfl (fun ls hl => ?_)
        refine lv_iload hx hb d_Sha_end_85 (lv_at hl 0 rfl) ?_
        refine lv_if_lt (tgt := 110) hx hb d_Sha_end_87 (by decide) (fun c87 => absurd c87 (by decide)) (fun c87 => ?_)
        refine lv_aload_n hx hb d_Sha_end_90 rfl (lv_at hl 3 rfl) ?_
        refine lv_aload_n hx hb d_Sha_end_91 rfl (lv_at hl 2 rfl) ?_
        refine va_get (D := (dC, dI)) (ci := 10) (v := .ref a) (C := R_Sha) (T := F_Sha) (N := 3) hx hb hts i_Sha hown hK hP 0 rfl rfl 0 (by decide) (hts _ m_50) (fun _ h9 => h9) rfl d_Sha_end_92 ?_
        refine lv_iload hx hb d_Sha_end_95 (lv_at hl 1 rfl) ?_
        refine kv_iald hx hb hK hP 1 0 rfl rfl (by omega) (by omega) d_Sha_end_97 ?_
        refine lv_topi (fun v_105 _ => ?_)
        refine lv_iload hx hb d_Sha_end_98 (lv_at hl 0 rfl) ?_
        refine lv_iushr hx hb d_Sha_end_100 rfl ?_
        refine lv_topi (fun v_106 _ => ?_)
        refine k_finv (wr := [(s0, .inr (10, [.ref a, .ref b, .int (nI 64)])), (a, .inl (ka, 8, .inl f_21)), (b, .inl (kb, 64, .inl g_22))]) [3, 4] [0, 1, 2] (k_runV (n := 1) (As := [.int v_106]) (rest := []) (wc := [(r0, .inr (1, [.ref rb, .int (nI 16)])), (rb, .inl (kr, 66, .inl g_102))]) ⟨hx, hb, hml, hown, hts⟩ (c_Row_put l dC dI r0 rb kr 66 16 g_102 v_106 _ (by omega) (by omega)) (kg_V m_223 m_156 m_157 m_10 (kg_code m_154)) (by decide +kernel) rfl rfl ⟨Nat.le_of_ble_eq_true rfl, Nat.le_of_ble_eq_true rfl⟩ [3, 4] [2] hP hD hK hS hA hZ hN (by rfl) (by decide) (by rfl) rfl rfl rfl rfl hl.1 rfl (Nat.le_of_ble_eq_true rfl) d_Sha_end_101 ⟨(Nat.le_of_ble_eq_true rfl), (Nat.le_of_ble_eq_true rfl)⟩) hP hD hK hS hA (by rfl) (by rfl) (by decide) (by decide) (fun u9 H locs hw_109 hP hD hK hS => ?_)
        obtain ⟨g_107, rfl⟩ : ∃ z, z = u9 := ⟨_, rfl⟩
        try dsimp only at hw_109
        have hP : va_P (dC, dI) CL [(s0, .inr (10, [.ref a, .ref b, .int (nI 64)])), (a, .inl (ka, 8, .inl f_21)), (b, .inl (kb, 64, .inl g_22)), (r0, .inr (1, [.ref rb, .int (nI 17)])), (rb, .inl (kr, 66, .inl g_107))] H := hP
        have hD : va_D A [(s0, .inr (10, [.ref a, .ref b, .int (nI 64)])), (a, .inl (ka, 8, .inl f_21)), (b, .inl (kb, 64, .inl g_22)), (r0, .inr (1, [.ref rb, .int (nI 17)])), (rb, .inl (kr, 66, .inl g_107))] := hD
        have hK : va_K (dC, dI) CL [(ka, .int), (kb, .int), (kr, .byte)] s := hK
        refine lv_iinc (v := (nI 16)) (lv' := [(5, .int (nI 16)), (4, .int (nI 4)), (0, .ref s0), (1, .ref r0), (2, .int (nI 0)), (3, .int (nI 59))]) hx hb d_Sha_end_104 hl (k := 0) rfl (by decide) (by decide) rfl (fun ls hl => ?_)
        refine lv_goto (tgt := 85) hx hb d_Sha_end_107 (by decide) ?_
        refine lv_iload hx hb d_Sha_end_85 (lv_at hl 0 rfl) ?_
        refine lv_if_lt (tgt := 110) hx hb d_Sha_end_87 (by decide) (fun c87 => absurd c87 (by decide)) (fun c87 => ?_)
        refine lv_aload_n hx hb d_Sha_end_90 rfl (lv_at hl 3 rfl) ?_
        refine lv_aload_n hx hb d_Sha_end_91 rfl (lv_at hl 2 rfl) ?_
        refine va_get (D := (dC, dI)) (ci := 10) (v := .ref a) (C := R_Sha) (T := F_Sha) (N := 3) hx hb hts i_Sha hown hK hP 0 rfl rfl 0 (by decide) (hts _ m_50) (fun _ h9 => h9) rfl d_Sha_end_92 ?_
        refine lv_iload hx hb d_Sha_end_95 (lv_at hl 1 rfl) ?_
        refine kv_iald hx hb hK hP 1 0 rfl rfl (by omega) (by omega) d_Sha_end_97 ?_
        refine lv_topi (fun v_110 _ => ?_)
        refine lv_iload hx hb d_Sha_end_98 (lv_at hl 0 rfl) ?_
        refine lv_iushr hx hb d_Sha_end_100 rfl ?_
        refine lv_topi (fun v_111 _ => ?_)
        refine k_finv (wr := [(s0, .inr (10, [.ref a, .ref b, .int (nI 64)])), (a, .inl (ka, 8, .inl f_21)), (b, .inl (kb, 64, .inl g_22))]) [3, 4] [0, 1, 2] (k_runV (n := 1) (As := [.int v_111]) (rest := []) (wc := [(r0, .inr (1, [.ref rb, .int (nI 17)])), (rb, .inl (kr, 66, .inl g_107))]) ⟨hx, hb, hml, hown, hts⟩ (c_Row_put l dC dI r0 rb kr 66 17 g_107 v_111 _ (by omega) (by omega)) (kg_V m_223 m_156 m_157 m_10 (kg_code m_154)) (by decide +kernel) rfl rfl ⟨Nat.le_of_ble_eq_true rfl, Nat.le_of_ble_eq_true rfl⟩ [3, 4] [2] hP hD hK hS hA hZ hN (by rfl) (by decide) (by rfl) rfl rfl rfl rfl hl.1 rfl (Nat.le_of_ble_eq_true rfl) d_Sha_end_101 ⟨(Nat.le_of_ble_eq_true rfl), (Nat.le_of_ble_eq_true rfl)⟩) hP hD hK hS hA (by rfl) (by rfl) (by decide) (by decide) (fun u9 H locs hw_114 hP hD hK hS => ?_)
        obtain ⟨g_112, rfl⟩ : ∃ z, z = u9 := ⟨_, rfl⟩
        try dsimp only at hw_114
        have hP : va_P (dC, dI) CL [(s0, .inr (10, [.ref a, .ref b, .int (nI 64)])), (a, .inl (ka, 8, .inl f_21)), (b, .inl (kb, 64, .inl g_22)), (r0, .inr (1, [.ref rb, .int (nI 18)])), (rb, .inl (kr, 66, .inl g_112))] H := hP
        have hD : va_D A [(s0, .inr (10, [.ref a, .ref b, .int (nI 64)])), (a, .inl (ka, 8, .inl f_21)), (b, .inl (kb, 64, .inl g_22)), (r0, .inr (1, [.ref rb, .int (nI 18)])), (rb, .inl (kr, 66, .inl g_112))] := hD
        have hK : va_K (dC, dI) CL [(ka, .int), (kb, .int), (kr, .byte)] s := hK
        refine lv_iinc (v := (nI 8)) (lv' := [(5, .int (nI 8)), (4, .int (nI 4)), (0, .ref s0), (1, .ref r0), (2, .int (nI 0)), (3, .int (nI 59))]) hx hb d_Sha_end_104 hl (k := 0) rfl (by decide) (by decide) rfl (fun ls hl => ?_)
        refine lv_goto (tgt := 85) hx hb d_Sha_end_107 (by decide) ?_
        refine lv_iload hx hb d_Sha_end_85 (lv_at hl 0 rfl) ?_
        refine lv_if_lt (tgt := 110) hx hb d_Sha_end_87 (by decide) (fun c87 => absurd c87 (by decide)) (fun c87 => ?_)
        refine lv_aload_n hx hb d_Sha_end_90 rfl (lv_at hl 3 rfl) ?_
        refine lv_aload_n hx hb d_Sha_end_91 rfl (lv_at hl 2 rfl) ?_
        refine va_get (D := (dC, dI)) (ci := 10) (v := .ref a) (C := R_Sha) (T := F_Sha) (N := 3) hx hb hts i_Sha hown hK hP 0 rfl rfl 0 (by decide) (hts _ m_50) (fun _ h9 => h9) rfl d_Sha_end_92 ?_
        refine lv_iload hx hb d_Sha_end_95 (lv_at hl 1 rfl) ?_
        refine kv_iald hx hb hK hP 1 0 rfl rfl (by omega) (by omega) d_Sha_end_97 ?_
        refine lv_topi (fun v_115 _ => ?_)
        refine lv_iload hx hb d_Sha_end_98 (lv_at hl 0 rfl) ?_
        refine lv_iushr hx hb d_Sha_end_100 rfl ?_
        refine lv_topi (fun v_116 _ => ?_)
        refine k_finv (wr := [(s0, .inr (10, [.ref a, .ref b, .int (nI 64)])), (a, .inl (ka, 8, .inl f_21)), (b, .inl (kb, 64, .inl g_22))]) [3, 4] [0, 1, 2] (k_runV (n := 1) (As := [.int v_116]) (rest := []) (wc := [(r0, .inr (1, [.ref rb, .int (nI 18)])), (rb, .inl (kr, 66, .inl g_112))]) ⟨hx, hb, hml, hown, hts⟩ (c_Row_put l dC dI r0 rb kr 66 18 g_112 v_116 _ (by omega) (by omega)) (kg_V m_223 m_156 m_157 m_10 (kg_code m_154)) (by decide +kernel) rfl rfl ⟨Nat.le_of_ble_eq_true rfl, Nat.le_of_ble_eq_true rfl⟩ [3, 4] [2] hP hD hK hS hA hZ hN (by rfl) (by decide) (by rfl) rfl rfl rfl rfl hl.1 rfl (Nat.le_of_ble_eq_true rfl) d_Sha_end_101 ⟨(Nat.le_of_ble_eq_true rfl), (Nat.le_of_ble_eq_true rfl)⟩) hP hD hK hS hA (by rfl) (by rfl) (by decide) (by decide) (fun u9 H locs hw_119 hP hD hK hS => ?_)
        obtain ⟨g_117, rfl⟩ : ∃ z, z = u9 := ⟨_, rfl⟩
        try dsimp only at hw_119
        have hP : va_P (dC, dI) CL [(s0, .inr (10, [.ref a, .ref b, .int (nI 64)])), (a, .inl (ka, 8, .inl f_21)), (b, .inl (kb, 64, .inl g_22)), (r0, .inr (1, [.ref rb, .int (nI 19)])), (rb, .inl (kr, 66, .inl g_117))] H := hP
        have hD : va_D A [(s0, .inr (10, [.ref a, .ref b, .int (nI 64)])), (a, .inl (ka, 8, .inl f_21)), (b, .inl (kb, 64, .inl g_22)), (r0, .inr (1, [.ref rb, .int (nI 19)])), (rb, .inl (kr, 66, .inl g_117))] := hD
        have hK : va_K (dC, dI) CL [(ka, .int), (kb, .int), (kr, .byte)] s := hK
        refine lv_iinc (v := (nI 0)) (lv' := [(5, .int (nI 0)), (4, .int (nI 4)), (0, .ref s0), (1, .ref r0), (2, .int (nI 0)), (3, .int (nI 59))]) hx hb d_Sha_end_104 hl (k := 0) rfl (by decide) (by decide) rfl (fun ls hl => ?_)
        refine lv_goto (tgt := 85) hx hb d_Sha_end_107 (by decide) ?_
        refine lv_iload hx hb d_Sha_end_85 (lv_at hl 0 rfl) ?_
        refine lv_if_lt (tgt := 110) hx hb d_Sha_end_87 (by decide) (fun c87 => absurd c87 (by decide)) (fun c87 => ?_)
        refine lv_aload_n hx hb d_Sha_end_90 rfl (lv_at hl 3 rfl) ?_
        refine lv_aload_n hx hb d_Sha_end_91 rfl (lv_at hl 2 rfl) ?_
        refine va_get (D := (dC, dI)) (ci := 10) (v := .ref a) (C := R_Sha) (T := F_Sha) (N := 3) hx hb hts i_Sha hown hK hP 0 rfl rfl 0 (by decide) (hts _ m_50) (fun _ h9 => h9) rfl d_Sha_end_92 ?_
        refine lv_iload hx hb d_Sha_end_95 (lv_at hl 1 rfl) ?_
        refine kv_iald hx hb hK hP 1 0 rfl rfl (by omega) (by omega) d_Sha_end_97 ?_
        refine lv_topi (fun v_120 _ => ?_)
        refine lv_iload hx hb d_Sha_end_98 (lv_at hl 0 rfl) ?_
        refine lv_iushr hx hb d_Sha_end_100 rfl ?_
        refine lv_topi (fun v_121 _ => ?_)
        refine k_finv (wr := [(s0, .inr (10, [.ref a, .ref b, .int (nI 64)])), (a, .inl (ka, 8, .inl f_21)), (b, .inl (kb, 64, .inl g_22))]) [3, 4] [0, 1, 2] (k_runV (n := 1) (As := [.int v_121]) (rest := []) (wc := [(r0, .inr (1, [.ref rb, .int (nI 19)])), (rb, .inl (kr, 66, .inl g_117))]) ⟨hx, hb, hml, hown, hts⟩ (c_Row_put l dC dI r0 rb kr 66 19 g_117 v_121 _ (by omega) (by omega)) (kg_V m_223 m_156 m_157 m_10 (kg_code m_154)) (by decide +kernel) rfl rfl ⟨Nat.le_of_ble_eq_true rfl, Nat.le_of_ble_eq_true rfl⟩ [3, 4] [2] hP hD hK hS hA hZ hN (by rfl) (by decide) (by rfl) rfl rfl rfl rfl hl.1 rfl (Nat.le_of_ble_eq_true rfl) d_Sha_end_101 ⟨(Nat.le_of_ble_eq_true rfl), (Nat.le_of_ble_eq_true rfl)⟩) hP hD hK hS hA (by rfl) (by rfl) (by decide) (by decide) (fun u9 H locs hw_124 hP hD hK hS => ?_)
        obtain ⟨g_122, rfl⟩ : ∃ z, z = u9 := ⟨_, rfl⟩
        try dsimp only at hw_124
        have hP : va_P (dC, dI) CL [(s0, .inr (10, [.ref a, .ref b, .int (nI 64)])), (a, .inl (ka, 8, .inl f_21)), (b, .inl (kb, 64, .inl g_22)), (r0, .inr (1, [.ref rb, .int (nI 20)])), (rb, .inl (kr, 66, .inl g_122))] H := hP
        have hD : va_D A [(s0, .inr (10, [.ref a, .ref b, .int (nI 64)])), (a, .inl (ka, 8, .inl f_21)), (b, .inl (kb, 64, .inl g_22)), (r0, .inr (1, [.ref rb, .int (nI 20)])), (rb, .inl (kr, 66, .inl g_122))] := hD
        have hK : va_K (dC, dI) CL [(ka, .int), (kb, .int), (kr, .byte)] s := hK
        refine lv_iinc (v := (-8)) (lv' := [(5, .int (-8)), (4, .int (nI 4)), (0, .ref s0), (1, .ref r0), (2, .int (nI 0)), (3, .int (nI 59))]) hx hb d_Sha_end_104 hl (k := 0) rfl (by decide) (by decide) rfl (fun ls hl => ?_)
        refine lv_goto (tgt := 85) hx hb d_Sha_end_107 (by decide) ?_
        refine lv_iload hx hb d_Sha_end_85 (lv_at hl 0 rfl) ?_
        refine lv_if_lt (tgt := 110) hx hb d_Sha_end_87 (by decide) (fun c87 => ?_) (fun c87 => absurd (by decide) c87)
        refine lv_iinc (v := (nI 5)) (lv' := [(4, .int (nI 5)), (5, .int (-8)), (0, .ref s0), (1, .ref r0), (2, .int (nI 0)), (3, .int (nI 59))]) hx hb d_Sha_end_110 hl (k := 1) rfl (k_inc _) (by decide) rfl (fun ls hl => ?_)
        refine lv_goto (tgt := 74) hx hb d_Sha_end_113 (by decide) ?_
        refine lv_iload hx hb d_Sha_end_74 (lv_at hl 0 rfl) ?_
        refine lv_bipush (v := (nI 8)) hx hb d_Sha_end_76 (by decide +kernel) ?_
        refine lv_icmp_ge (tgt := 116) hx hb d_Sha_end_78 (by decide) (fun c78 => absurd c78 (by decide)) (fun c78 => ?_)
        refine lv_bipush (v := (nI 24)) hx hb d_Sha_end_81 (by decide +kernel) ?_
        refine lv_istore (lv' := [(5, .int (nI 24)), (4, .int (nI 5)), (0, .ref s0), (1, .ref r0), (2, .int (nI 0)), (3, .int (nI 59))]) hx hb d_Sha_end_83 hl (by decide) rfl (fun ls hl => ?_)
        refine lv_iload hx hb d_Sha_end_85 (lv_at hl 0 rfl) ?_
        refine lv_if_lt (tgt := 110) hx hb d_Sha_end_87 (by decide) (fun c87 => absurd c87 (by decide)) (fun c87 => ?_)
        refine lv_aload_n hx hb d_Sha_end_90 rfl (lv_at hl 3 rfl) ?_
        refine lv_aload_n hx hb d_Sha_end_91 rfl (lv_at hl 2 rfl) ?_
        refine va_get (D := (dC, dI)) (ci := 10) (v := .ref a) (C := R_Sha) (T := F_Sha) (N := 3) hx hb hts i_Sha hown hK hP 0 rfl rfl 0 (by decide) (hts _ m_50) (fun _ h9 => h9) rfl d_Sha_end_92 ?_
        refine lv_iload hx hb d_Sha_end_95 (lv_at hl 1 rfl) ?_
        refine kv_iald hx hb hK hP 1 0 rfl rfl (by omega) (by omega) d_Sha_end_97 ?_
        refine lv_topi (fun v_125 _ => ?_)
        refine lv_iload hx hb d_Sha_end_98 (lv_at hl 0 rfl) ?_
        refine lv_iushr hx hb d_Sha_end_100 rfl ?_
        refine lv_topi (fun v_126 _ => ?_)
        refine k_finv (wr := [(s0, .inr (10, [.ref a, .ref b, .int (nI 64)])), (a, .inl (ka, 8, .inl f_21)), (b, .inl (kb, 64, .inl g_22))]) [3, 4] [0, 1, 2] (k_runV (n := 1) (As := [.int v_126]) (rest := []) (wc := [(r0, .inr (1, [.ref rb, .int (nI 20)])), (rb, .inl (kr, 66, .inl g_122))]) ⟨hx, hb, hml, hown, hts⟩ (c_Row_put l dC dI r0 rb kr 66 20 g_122 v_126 _ (by omega) (by omega)) (kg_V m_223 m_156 m_157 m_10 (kg_code m_154)) (by decide +kernel) rfl rfl ⟨Nat.le_of_ble_eq_true rfl, Nat.le_of_ble_eq_true rfl⟩ [3, 4] [2] hP hD hK hS hA hZ hN (by rfl) (by decide) (by rfl) rfl rfl rfl rfl hl.1 rfl (Nat.le_of_ble_eq_true rfl) d_Sha_end_101 ⟨(Nat.le_of_ble_eq_true rfl), (Nat.le_of_ble_eq_true rfl)⟩) hP hD hK hS hA (by rfl) (by rfl) (by decide) (by decide) (fun u9 H locs hw_129 hP hD hK hS => ?_)
        obtain ⟨g_127, rfl⟩ : ∃ z, z = u9 := ⟨_, rfl⟩
        try dsimp only at hw_129
        have hP : va_P (dC, dI) CL [(s0, .inr (10, [.ref a, .ref b, .int (nI 64)])), (a, .inl (ka, 8, .inl f_21)), (b, .inl (kb, 64, .inl g_22)), (r0, .inr (1, [.ref rb, .int (nI 21)])), (rb, .inl (kr, 66, .inl g_127))] H := hP
        have hD : va_D A [(s0, .inr (10, [.ref a, .ref b, .int (nI 64)])), (a, .inl (ka, 8, .inl f_21)), (b, .inl (kb, 64, .inl g_22)), (r0, .inr (1, [.ref rb, .int (nI 21)])), (rb, .inl (kr, 66, .inl g_127))] := hD
        have hK : va_K (dC, dI) CL [(ka, .int), (kb, .int), (kr, .byte)] s := hK
        refine lv_iinc (v := (nI 16)) (lv' := [(5, .int (nI 16)), (4, .int (nI 5)), (0, .ref s0), (1, .ref r0), (2, .int (nI 0)), (3, .int (nI 59))]) hx hb d_Sha_end_104 hl (k := 0) rfl (by decide) (by decide) rfl (fun ls hl => ?_)
        refine lv_goto (tgt := 85) hx hb d_Sha_end_107 (by decide) ?_
        refine lv_iload hx hb d_Sha_end_85 (lv_at hl 0 rfl) ?_
        refine lv_if_lt (tgt := 110) hx hb d_Sha_end_87 (by decide) (fun c87 => absurd c87 (by decide)) (fun c87 => ?_)
        refine lv_aload_n hx hb d_Sha_end_90 rfl (lv_at hl 3 rfl) ?_
        refine lv_aload_n hx hb d_Sha_end_91 rfl (lv_at hl 2 rfl) ?_
        refine va_get (D := (dC, dI)) (ci := 10) (v := .ref a) (C := R_Sha) (T := F_Sha) (N := 3) hx hb hts i_Sha hown hK hP 0 rfl rfl 0 (by decide) (hts _ m_50) (fun _ h9 => h9) rfl d_Sha_end_92 ?_
        refine lv_iload hx hb d_Sha_end_95 (lv_at hl 1 rfl) ?_
        refine kv_iald hx hb hK hP 1 0 rfl rfl (by omega) (by omega) d_Sha_end_97 ?_
        refine lv_topi (fun v_130 _ => ?_)
        refine lv_iload hx hb d_Sha_end_98 (lv_at hl 0 rfl) ?_
        refine lv_iushr hx hb d_Sha_end_100 rfl ?_
        refine lv_topi (fun v_131 _ => ?_)
        refine k_finv (wr := [(s0, .inr (10, [.ref a, .ref b, .int (nI 64)])), (a, .inl (ka, 8, .inl f_21)), (b, .inl (kb, 64, .inl g_22))]) [3, 4] [0, 1, 2] (k_runV (n := 1) (As := [.int v_131]) (rest := []) (wc := [(r0, .inr (1, [.ref rb, .int (nI 21)])), (rb, .inl (kr, 66, .inl g_127))]) ⟨hx, hb, hml, hown, hts⟩ (c_Row_put l dC dI r0 rb kr 66 21 g_127 v_131 _ (by omega) (by omega)) (kg_V m_223 m_156 m_157 m_10 (kg_code m_154)) (by decide +kernel) rfl rfl ⟨Nat.le_of_ble_eq_true rfl, Nat.le_of_ble_eq_true rfl⟩ [3, 4] [2] hP hD hK hS hA hZ hN (by rfl) (by decide) (by rfl) rfl rfl rfl rfl hl.1 rfl (Nat.le_of_ble_eq_true rfl) d_Sha_end_101 ⟨(Nat.le_of_ble_eq_true rfl), (Nat.le_of_ble_eq_true rfl)⟩) hP hD hK hS hA (by rfl) (by rfl) (by decide) (by decide) (fun u9 H locs hw_134 hP hD hK hS => ?_)
        obtain ⟨g_132, rfl⟩ : ∃ z, z = u9 := ⟨_, rfl⟩
        try dsimp only at hw_134
        have hP : va_P (dC, dI) CL [(s0, .inr (10, [.ref a, .ref b, .int (nI 64)])), (a, .inl (ka, 8, .inl f_21)), (b, .inl (kb, 64, .inl g_22)), (r0, .inr (1, [.ref rb, .int (nI 22)])), (rb, .inl (kr, 66, .inl g_132))] H := hP
        have hD : va_D A [(s0, .inr (10, [.ref a, .ref b, .int (nI 64)])), (a, .inl (ka, 8, .inl f_21)), (b, .inl (kb, 64, .inl g_22)), (r0, .inr (1, [.ref rb, .int (nI 22)])), (rb, .inl (kr, 66, .inl g_132))] := hD
        have hK : va_K (dC, dI) CL [(ka, .int), (kb, .int), (kr, .byte)] s := hK
        refine lv_iinc (v := (nI 8)) (lv' := [(5, .int (nI 8)), (4, .int (nI 5)), (0, .ref s0), (1, .ref r0), (2, .int (nI 0)), (3, .int (nI 59))]) hx hb d_Sha_end_104 hl (k := 0) rfl (by decide) (by decide) rfl (fun ls hl => ?_)
        refine lv_goto (tgt := 85) hx hb d_Sha_end_107 (by decide) ?_
        refine lv_iload hx hb d_Sha_end_85 (lv_at hl 0 rfl) ?_
        refine lv_if_lt (tgt := 110) hx hb d_Sha_end_87 (by decide) (fun c87 => absurd c87 (by decide)) (fun c87 => ?_)
        refine lv_aload_n hx hb d_Sha_end_90 rfl (lv_at hl 3 rfl) ?_
        refine lv_aload_n hx hb d_Sha_end_91 rfl (lv_at hl 2 rfl) ?_
        refine va_get (D := (dC, dI)) (ci := 10) (v := .ref a) (C := R_Sha) (T := F_Sha) (N := 3) hx hb hts i_Sha hown hK hP 0 rfl rfl 0 (by decide) (hts _ m_50) (fun _ h9 => h9) rfl d_Sha_end_92 ?_
        refine lv_iload hx hb d_Sha_end_95 (lv_at hl 1 rfl) ?_
        refine kv_iald hx hb hK hP 1 0 rfl rfl (by omega) (by omega) d_Sha_end_97 ?_
        refine lv_topi (fun v_135 _ => ?_)
        refine lv_iload hx hb d_Sha_end_98 (lv_at hl 0 rfl) ?_
        refine lv_iushr hx hb d_Sha_end_100 rfl ?_
        refine lv_topi (fun v_136 _ => ?_)
        refine k_finv (wr := [(s0, .inr (10, [.ref a, .ref b, .int (nI 64)])), (a, .inl (ka, 8, .inl f_21)), (b, .inl (kb, 64, .inl g_22))]) [3, 4] [0, 1, 2] (k_runV (n := 1) (As := [.int v_136]) (rest := []) (wc := [(r0, .inr (1, [.ref rb, .int (nI 22)])), (rb, .inl (kr, 66, .inl g_132))]) ⟨hx, hb, hml, hown, hts⟩ (c_Row_put l dC dI r0 rb kr 66 22 g_132 v_136 _ (by omega) (by omega)) (kg_V m_223 m_156 m_157 m_10 (kg_code m_154)) (by decide +kernel) rfl rfl ⟨Nat.le_of_ble_eq_true rfl, Nat.le_of_ble_eq_true rfl⟩ [3, 4] [2] hP hD hK hS hA hZ hN (by rfl) (by decide) (by rfl) rfl rfl rfl rfl hl.1 rfl (Nat.le_of_ble_eq_true rfl) d_Sha_end_101 ⟨(Nat.le_of_ble_eq_true rfl), (Nat.le_of_ble_eq_true rfl)⟩) hP hD hK hS hA (by rfl) (by rfl) (by decide) (by decide) (fun u9 H locs hw_139 hP hD hK hS => ?_)
        obtain ⟨g_137, rfl⟩ : ∃ z, z = u9 := ⟨_, rfl⟩
        try dsimp only at hw_139
        have hP : va_P (dC, dI) CL [(s0, .inr (10, [.ref a, .ref b, .int (nI 64)])), (a, .inl (ka, 8, .inl f_21)), (b, .inl (kb, 64, .inl g_22)), (r0, .inr (1, [.ref rb, .int (nI 23)])), (rb, .inl (kr, 66, .inl g_137))] H := hP
        have hD : va_D A [(s0, .inr (10, [.ref a, .ref b, .int (nI 64)])), (a, .inl (ka, 8, .inl f_21)), (b, .inl (kb, 64, .inl g_22)), (r0, .inr (1, [.ref rb, .int (nI 23)])), (rb, .inl (kr, 66, .inl g_137))] := hD
        have hK : va_K (dC, dI) CL [(ka, .int), (kb, .int), (kr, .byte)] s := hK
        refine lv_iinc (v := (nI 0)) (lv' := [(5, .int (nI 0)), (4, .int (nI 5)), (0, .ref s0), (1, .ref r0), (2, .int (nI 0)), (3, .int (nI 59))]) hx hb d_Sha_end_104 hl (k := 0) rfl (by decide) (by decide) rfl (fun ls hl => ?_)
        refine lv_goto (tgt := 85) hx hb d_Sha_end_107 (by decide) ?_
        refine lv_iload hx hb d_Sha_end_85 (lv_at hl 0 rfl) ?_
        refine lv_if_lt (tgt := 110) hx hb d_Sha_end_87 (by decide) (fun c87 => absurd c87 (by decide)) (fun c87 => ?_)
        refine lv_aload_n hx hb d_Sha_end_90 rfl (lv_at hl 3 rfl) ?_
        refine lv_aload_n hx hb d_Sha_end_91 rfl (lv_at hl 2 rfl) ?_
        refine va_get (D := (dC, dI)) (ci := 10) (v := .ref a) (C := R_Sha) (T := F_Sha) (N := 3) hx hb hts i_Sha hown hK hP 0 rfl rfl 0 (by decide) (hts _ m_50) (fun _ h9 => h9) rfl d_Sha_end_92 ?_
        refine lv_iload hx hb d_Sha_end_95 (lv_at hl 1 rfl) ?_
        refine kv_iald hx hb hK hP 1 0 rfl rfl (by omega) (by omega) d_Sha_end_97 ?_
        refine lv_topi (fun v_140 _ => ?_)
        refine lv_iload hx hb d_Sha_end_98 (lv_at hl 0 rfl) ?_
        refine lv_iushr hx hb d_Sha_end_100 rfl ?_
        refine lv_topi (fun v_141 _ => ?_)
        refine k_finv (wr := [(s0, .inr (10, [.ref a, .ref b, .int (nI 64)])), (a, .inl (ka, 8, .inl f_21)), (b, .inl (kb, 64, .inl g_22))]) [3, 4] [0, 1, 2] (k_runV (n := 1) (As := [.int v_141]) (rest := []) (wc := [(r0, .inr (1, [.ref rb, .int (nI 23)])), (rb, .inl (kr, 66, .inl g_137))]) ⟨hx, hb, hml, hown, hts⟩ (c_Row_put l dC dI r0 rb kr 66 23 g_137 v_141 _ (by omega) (by omega)) (kg_V m_223 m_156 m_157 m_10 (kg_code m_154)) (by decide +kernel) rfl rfl ⟨Nat.le_of_ble_eq_true rfl, Nat.le_of_ble_eq_true rfl⟩ [3, 4] [2] hP hD hK hS hA hZ hN (by rfl) (by decide) (by rfl) rfl rfl rfl rfl hl.1 rfl (Nat.le_of_ble_eq_true rfl) d_Sha_end_101 ⟨(Nat.le_of_ble_eq_true rfl), (Nat.le_of_ble_eq_true rfl)⟩) hP hD hK hS hA (by rfl) (by rfl) (by decide) (by decide) (fun u9 H locs hw_144 hP hD hK hS => ?_)
        obtain ⟨g_142, rfl⟩ : ∃ z, z = u9 := ⟨_, rfl⟩
        try dsimp only at hw_144
        have hP : va_P (dC, dI) CL [(s0, .inr (10, [.ref a, .ref b, .int (nI 64)])), (a, .inl (ka, 8, .inl f_21)), (b, .inl (kb, 64, .inl g_22)), (r0, .inr (1, [.ref rb, .int (nI 24)])), (rb, .inl (kr, 66, .inl g_142))] H := hP
        have hD : va_D A [(s0, .inr (10, [.ref a, .ref b, .int (nI 64)])), (a, .inl (ka, 8, .inl f_21)), (b, .inl (kb, 64, .inl g_22)), (r0, .inr (1, [.ref rb, .int (nI 24)])), (rb, .inl (kr, 66, .inl g_142))] := hD
        have hK : va_K (dC, dI) CL [(ka, .int), (kb, .int), (kr, .byte)] s := hK
        refine lv_iinc (v := (-8)) (lv' := [(5, .int (-8)), (4, .int (nI 5)), (0, .ref s0), (1, .ref r0), (2, .int (nI 0)), (3, .int (nI 59))]) hx hb d_Sha_end_104 hl (k := 0) rfl (by decide) (by decide) rfl (fun ls hl => ?_)
        refine lv_goto (tgt := 85) hx hb d_Sha_end_107 (by decide) ?_
        refine lv_iload hx hb d_Sha_end_85 (lv_at hl 0 rfl) ?_
        refine lv_if_lt (tgt := 110) hx hb d_Sha_end_87 (by decide) (fun c87 => ?_) (fun c87 => absurd (by decide) c87)
        refine lv_iinc (v := (nI 6)) (lv' := [(4, .int (nI 6)), (5, .int (-8)), (0, .ref s0), (1, .ref r0), (2, .int (nI 0)), (3, .int (nI 59))]) hx hb d_Sha_end_110 hl (k := 1) rfl (k_inc _) (by decide) rfl (fun ls hl => ?_)
        refine lv_goto (tgt := 74) hx hb d_Sha_end_113 (by decide) ?_
        refine lv_iload hx hb d_Sha_end_74 (lv_at hl 0 rfl) ?_
        refine lv_bipush (v := (nI 8)) hx hb d_Sha_end_76 (by decide +kernel) ?_
        refine lv_icmp_ge (tgt := 116) hx hb d_Sha_end_78 (by decide) (fun c78 => absurd c78 (by decide)) (fun c78 => ?_)
        refine lv_bipush (v := (nI 24)) hx hb d_Sha_end_81 (by decide +kernel) ?_
        refine lv_istore (lv' := [(5, .int (nI 24)), (4, .int (nI 6)), (0, .ref s0), (1, .ref r0), (2, .int (nI 0)), (3, .int (nI 59))]) hx hb d_Sha_end_83 hl (by decide) rfl (fun ls hl => ?_)
        refine lv_iload hx hb d_Sha_end_85 (lv_at hl 0 rfl) ?_
        refine lv_if_lt (tgt := 110) hx hb d_Sha_end_87 (by decide) (fun c87 => absurd c87 (by decide)) (fun c87 => ?_)
        refine lv_aload_n hx hb d_Sha_end_90 rfl (lv_at hl 3 rfl) ?_
        refine lv_aload_n hx hb d_Sha_end_91 rfl (lv_at hl 2 rfl) ?_
        refine va_get (D := (dC, dI)) (ci := 10) (v := .ref a) (C := R_Sha) (T := F_Sha) (N := 3) hx hb hts i_Sha hown hK hP 0 rfl rfl 0 (by decide) (hts _ m_50) (fun _ h9 => h9) rfl d_Sha_end_92 ?_
        refine lv_iload hx hb d_Sha_end_95 (lv_at hl 1 rfl) ?_
        refine kv_iald hx hb hK hP 1 0 rfl rfl (by omega) (by omega) d_Sha_end_97 ?_
        refine lv_topi (fun v_145 _ => ?_)
        refine lv_iload hx hb d_Sha_end_98 (lv_at hl 0 rfl) ?_
        refine lv_iushr hx hb d_Sha_end_100 rfl ?_
        refine lv_topi (fun v_146 _ => ?_)
        refine k_finv (wr := [(s0, .inr (10, [.ref a, .ref b, .int (nI 64)])), (a, .inl (ka, 8, .inl f_21)), (b, .inl (kb, 64, .inl g_22))]) [3, 4] [0, 1, 2] (k_runV (n := 1) (As := [.int v_146]) (rest := []) (wc := [(r0, .inr (1, [.ref rb, .int (nI 24)])), (rb, .inl (kr, 66, .inl g_142))]) ⟨hx, hb, hml, hown, hts⟩ (c_Row_put l dC dI r0 rb kr 66 24 g_142 v_146 _ (by omega) (by omega)) (kg_V m_223 m_156 m_157 m_10 (kg_code m_154)) (by decide +kernel) rfl rfl ⟨Nat.le_of_ble_eq_true rfl, Nat.le_of_ble_eq_true rfl⟩ [3, 4] [2] hP hD hK hS hA hZ hN (by rfl) (by decide) (by rfl) rfl rfl rfl rfl hl.1 rfl (Nat.le_of_ble_eq_true rfl) d_Sha_end_101 ⟨(Nat.le_of_ble_eq_true rfl), (Nat.le_of_ble_eq_true rfl)⟩) hP hD hK hS hA (by rfl) (by rfl) (by decide) (by decide) (fun u9 H locs hw_149 hP hD hK hS => ?_)
        obtain ⟨g_147, rfl⟩ : ∃ z, z = u9 := ⟨_, rfl⟩
        try dsimp only at hw_149
        have hP : va_P (dC, dI) CL [(s0, .inr (10, [.ref a, .ref b, .int (nI 64)])), (a, .inl (ka, 8, .inl f_21)), (b, .inl (kb, 64, .inl g_22)), (r0, .inr (1, [.ref rb, .int (nI 25)])), (rb, .inl (kr, 66, .inl g_147))] H := hP
        have hD : va_D A [(s0, .inr (10, [.ref a, .ref b, .int (nI 64)])), (a, .inl (ka, 8, .inl f_21)), (b, .inl (kb, 64, .inl g_22)), (r0, .inr (1, [.ref rb, .int (nI 25)])), (rb, .inl (kr, 66, .inl g_147))] := hD
        have hK : va_K (dC, dI) CL [(ka, .int), (kb, .int), (kr, .byte)] s := hK
        refine lv_iinc (v := (nI 16)) (lv' := [(5, .int (nI 16)), (4, .int (nI 6)), (0, .ref s0), (1, .ref r0), (2, .int (nI 0)), (3, .int (nI 59))]) hx hb d_Sha_end_104 hl (k := 0) rfl (by decide) (by decide) rfl (fun ls hl => ?_)
        refine lv_goto (tgt := 85) hx hb d_Sha_end_107 (by decide) ?_
        refine lv_iload hx hb d_Sha_end_85 (lv_at hl 0 rfl) ?_
        refine lv_if_lt (tgt := 110) hx hb d_Sha_end_87 (by decide) (fun c87 => absurd c87 (by decide)) (fun c87 => ?_)
        refine lv_aload_n hx hb d_Sha_end_90 rfl (lv_at hl 3 rfl) ?_
        refine lv_aload_n hx hb d_Sha_end_91 rfl (lv_at hl 2 rfl) ?_
        refine va_get (D := (dC, dI)) (ci := 10) (v := .ref a) (C := R_Sha) (T := F_Sha) (N := 3) hx hb hts i_Sha hown hK hP 0 rfl rfl 0 (by decide) (hts _ m_50) (fun _ h9 => h9) rfl d_Sha_end_92 ?_
        refine lv_iload hx hb d_Sha_end_95 (lv_at hl 1 rfl) ?_
        refine kv_iald hx hb hK hP 1 0 rfl rfl (by omega) (by omega) d_Sha_end_97 ?_
        refine lv_topi (fun v_150 _ => ?_)
        refine lv_iload hx hb d_Sha_end_98 (lv_at hl 0 rfl) ?_
        refine lv_iushr hx hb d_Sha_end_100 rfl ?_
        refine lv_topi (fun v_151 _ => ?_)
        refine k_finv (wr := [(s0, .inr (10, [.ref a, .ref b, .int (nI 64)])), (a, .inl (ka, 8, .inl f_21)), (b, .inl (kb, 64, .inl g_22))]) [3, 4] [0, 1, 2] (k_runV (n := 1) (As := [.int v_151]) (rest := []) (wc := [(r0, .inr (1, [.ref rb, .int (nI 25)])), (rb, .inl (kr, 66, .inl g_147))]) ⟨hx, hb, hml, hown, hts⟩ (c_Row_put l dC dI r0 rb kr 66 25 g_147 v_151 _ (by omega) (by omega)) (kg_V m_223 m_156 m_157 m_10 (kg_code m_154)) (by decide +kernel) rfl rfl ⟨Nat.le_of_ble_eq_true rfl, Nat.le_of_ble_eq_true rfl⟩ [3, 4] [2] hP hD hK hS hA hZ hN (by rfl) (by decide) (by rfl) rfl rfl rfl rfl hl.1 rfl (Nat.le_of_ble_eq_true rfl) d_Sha_end_101 ⟨(Nat.le_of_ble_eq_true rfl), (Nat.le_of_ble_eq_true rfl)⟩) hP hD hK hS hA (by rfl) (by rfl) (by decide) (by decide) (fun u9 H locs hw_154 hP hD hK hS => ?_)
        obtain ⟨g_152, rfl⟩ : ∃ z, z = u9 := ⟨_, rfl⟩
        try dsimp only at hw_154
        have hP : va_P (dC, dI) CL [(s0, .inr (10, [.ref a, .ref b, .int (nI 64)])), (a, .inl (ka, 8, .inl f_21)), (b, .inl (kb, 64, .inl g_22)), (r0, .inr (1, [.ref rb, .int (nI 26)])), (rb, .inl (kr, 66, .inl g_152))] H := hP
        have hD : va_D A [(s0, .inr (10, [.ref a, .ref b, .int (nI 64)])), (a, .inl (ka, 8, .inl f_21)), (b, .inl (kb, 64, .inl g_22)), (r0, .inr (1, [.ref rb, .int (nI 26)])), (rb, .inl (kr, 66, .inl g_152))] := hD
        have hK : va_K (dC, dI) CL [(ka, .int), (kb, .int), (kr, .byte)] s := hK
        refine lv_iinc (v := (nI 8)) (lv' := [(5, .int (nI 8)), (4, .int (nI 6)), (0, .ref s0), (1, .ref r0), (2, .int (nI 0)), (3, .int (nI 59))]) hx hb d_Sha_end_104 hl (k := 0) rfl (by decide) (by decide) rfl (fun ls hl => ?_)
        refine lv_goto (tgt := 85) hx hb d_Sha_end_107 (by decide) ?_
        refine lv_iload hx hb d_Sha_end_85 (lv_at hl 0 rfl) ?_
        refine lv_if_lt (tgt := 110) hx hb d_Sha_end_87 (by decide) (fun c87 => absurd c87 (by decide)) (fun c87 => ?_)
        refine lv_aload_n hx hb d_Sha_end_90 rfl (lv_at hl 3 rfl) ?_
        refine lv_aload_n hx hb d_Sha_end_91 rfl (lv_at hl 2 rfl) ?_
        refine va_get (D := (dC, dI)) (ci := 10) (v := .ref a) (C := R_Sha) (T := F_Sha) (N := 3) hx hb hts i_Sha hown hK hP 0 rfl rfl 0 (by decide) (hts _ m_50) (fun _ h9 => h9) rfl d_Sha_end_92 ?_
        refine lv_iload hx hb d_Sha_end_95 (lv_at hl 1 rfl) ?_
        refine kv_iald hx hb hK hP 1 0 rfl rfl (by omega) (by omega) d_Sha_end_97 ?_
        refine lv_topi (fun v_155 _ => ?_)
        refine lv_iload hx hb d_Sha_end_98 (lv_at hl 0 rfl) ?_
        refine lv_iushr hx hb d_Sha_end_100 rfl ?_
        refine lv_topi (fun v_156 _ => ?_)
        refine k_finv (wr := [(s0, .inr (10, [.ref a, .ref b, .int (nI 64)])), (a, .inl (ka, 8, .inl f_21)), (b, .inl (kb, 64, .inl g_22))]) [3, 4] [0, 1, 2] (k_runV (n := 1) (As := [.int v_156]) (rest := []) (wc := [(r0, .inr (1, [.ref rb, .int (nI 26)])), (rb, .inl (kr, 66, .inl g_152))]) ⟨hx, hb, hml, hown, hts⟩ (c_Row_put l dC dI r0 rb kr 66 26 g_152 v_156 _ (by omega) (by omega)) (kg_V m_223 m_156 m_157 m_10 (kg_code m_154)) (by decide +kernel) rfl rfl ⟨Nat.le_of_ble_eq_true rfl, Nat.le_of_ble_eq_true rfl⟩ [3, 4] [2] hP hD hK hS hA hZ hN (by rfl) (by decide) (by rfl) rfl rfl rfl rfl hl.1 rfl (Nat.le_of_ble_eq_true rfl) d_Sha_end_101 ⟨(Nat.le_of_ble_eq_true rfl), (Nat.le_of_ble_eq_true rfl)⟩) hP hD hK hS hA (by rfl) (by rfl) (by decide) (by decide) (fun u9 H locs hw_159 hP hD hK hS => ?_)
        obtain ⟨g_157, rfl⟩ : ∃ z, z = u9 := ⟨_, rfl⟩
        try dsimp only at hw_159
        have hP : va_P (dC, dI) CL [(s0, .inr (10, [.ref a, .ref b, .int (nI 64)])), (a, .inl (ka, 8, .inl f_21)), (b, .inl (kb, 64, .inl g_22)), (r0, .inr (1, [.ref rb, .int (nI 27)])), (rb, .inl (kr, 66, .inl g_157))] H := hP
        have hD : va_D A [(s0, .inr (10, [.ref a, .ref b, .int (nI 64)])), (a, .inl (ka, 8, .inl f_21)), (b, .inl (kb, 64, .inl g_22)), (r0, .inr (1, [.ref rb, .int (nI 27)])), (rb, .inl (kr, 66, .inl g_157))] := hD
        have hK : va_K (dC, dI) CL [(ka, .int), (kb, .int), (kr, .byte)] s := hK
        refine lv_iinc (v := (nI 0)) (lv' := [(5, .int (nI 0)), (4, .int (nI 6)), (0, .ref s0), (1, .ref r0), (2, .int (nI 0)), (3, .int (nI 59))]) hx hb d_Sha_end_104 hl (k := 0) rfl (by decide) (by decide) rfl (fun ls hl => ?_)
        refine lv_goto (tgt := 85) hx hb d_Sha_end_107 (by decide) ?_
        refine lv_iload hx hb d_Sha_end_85 (lv_at hl 0 rfl) ?_
        refine lv_if_lt (tgt := 110) hx hb d_Sha_end_87 (by decide) (fun c87 => absurd c87 (by decide)) (fun c87 => ?_)
        refine lv_aload_n hx hb d_Sha_end_90 rfl (lv_at hl 3 rfl) ?_
        refine lv_aload_n hx hb d_Sha_end_91 rfl (lv_at hl 2 rfl) ?_
        refine va_get (D := (dC, dI)) (ci := 10) (v := .ref a) (C := R_Sha) (T := F_Sha) (N := 3) hx hb hts i_Sha hown hK hP 0 rfl rfl 0 (by decide) (hts _ m_50) (fun _ h9 => h9) rfl d_Sha_end_92 ?_
        refine lv_iload hx hb d_Sha_end_95 (lv_at hl 1 rfl) ?_
        refine kv_iald hx hb hK hP 1 0 rfl rfl (by omega) (by omega) d_Sha_end_97 ?_
        refine lv_topi (fun v_160 _ => ?_)
        refine lv_iload hx hb d_Sha_end_98 (lv_at hl 0 rfl) ?_
        refine lv_iushr hx hb d_Sha_end_100 rfl ?_
        refine lv_topi (fun v_161 _ => ?_)
        refine k_finv (wr := [(s0, .inr (10, [.ref a, .ref b, .int (nI 64)])), (a, .inl (ka, 8, .inl f_21)), (b, .inl (kb, 64, .inl g_22))]) [3, 4] [0, 1, 2] (k_runV (n := 1) (As := [.int v_161]) (rest := []) (wc := [(r0, .inr (1, [.ref rb, .int (nI 27)])), (rb, .inl (kr, 66, .inl g_157))]) ⟨hx, hb, hml, hown, hts⟩ (c_Row_put l dC dI r0 rb kr 66 27 g_157 v_161 _ (by omega) (by omega)) (kg_V m_223 m_156 m_157 m_10 (kg_code m_154)) (by decide +kernel) rfl rfl ⟨Nat.le_of_ble_eq_true rfl, Nat.le_of_ble_eq_true rfl⟩ [3, 4] [2] hP hD hK hS hA hZ hN (by rfl) (by decide) (by rfl) rfl rfl rfl rfl hl.1 rfl (Nat.le_of_ble_eq_true rfl) d_Sha_end_101 ⟨(Nat.le_of_ble_eq_true rfl), (Nat.le_of_ble_eq_true rfl)⟩) hP hD hK hS hA (by rfl) (by rfl) (by decide) (by decide) (fun u9 H locs hw_164 hP hD hK hS => ?_)
        obtain ⟨g_162, rfl⟩ : ∃ z, z = u9 := ⟨_, rfl⟩
        try dsimp only at hw_164
        have hP : va_P (dC, dI) CL [(s0, .inr (10, [.ref a, .ref b, .int (nI 64)])), (a, .inl (ka, 8, .inl f_21)), (b, .inl (kb, 64, .inl g_22)), (r0, .inr (1, [.ref rb, .int (nI 28)])), (rb, .inl (kr, 66, .inl g_162))] H := hP
        have hD : va_D A [(s0, .inr (10, [.ref a, .ref b, .int (nI 64)])), (a, .inl (ka, 8, .inl f_21)), (b, .inl (kb, 64, .inl g_22)), (r0, .inr (1, [.ref rb, .int (nI 28)])), (rb, .inl (kr, 66, .inl g_162))] := hD
        have hK : va_K (dC, dI) CL [(ka, .int), (kb, .int), (kr, .byte)] s := hK
        refine lv_iinc (v := (-8)) (lv' := [(5, .int (-8)), (4, .int (nI 6)), (0, .ref s0), (1, .ref r0), (2, .int (nI 0)), (3, .int (nI 59))]) hx hb d_Sha_end_104 hl (k := 0) rfl (by decide) (by decide) rfl (fun ls hl => ?_)
        refine lv_goto (tgt := 85) hx hb d_Sha_end_107 (by decide) ?_
        refine lv_iload hx hb d_Sha_end_85 (lv_at hl 0 rfl) ?_
        refine lv_if_lt (tgt := 110) hx hb d_Sha_end_87 (by decide) (fun c87 => ?_) (fun c87 => absurd (by decide) c87)
        refine lv_iinc (v := (nI 7)) (lv' := [(4, .int (nI 7)), (5, .int (-8)), (0, .ref s0), (1, .ref r0), (2, .int (nI 0)), (3, .int (nI 59))]) hx hb d_Sha_end_110 hl (k := 1) rfl (k_inc _) (by decide) rfl (fun ls hl => ?_)
        refine lv_goto (tgt := 74) hx hb d_Sha_end_113 (by decide) ?_
        refine lv_iload hx hb d_Sha_end_74 (lv_at hl 0 rfl) ?_
        refine lv_bipush (v := (nI 8)) hx hb d_Sha_end_76 (by decide +kernel) ?_
        refine lv_icmp_ge (tgt := 116) hx hb d_Sha_end_78 (by decide) (fun c78 => absurd c78 (by decide)) (fun c78 => ?_)
        refine lv_bipush (v := (nI 24)) hx hb d_Sha_end_81 (by decide +kernel) ?_
        refine lv_istore (lv' := [(5, .int (nI 24)), (4, .int (nI 7)), (0, .ref s0), (1, .ref r0), (2, .int (nI 0)), (3, .int (nI 59))]) hx hb d_Sha_end_83 hl (by decide) rfl (fun ls hl => ?_)
        refine lv_iload hx hb d_Sha_end_85 (lv_at hl 0 rfl) ?_
        refine lv_if_lt (tgt := 110) hx hb d_Sha_end_87 (by decide) (fun c87 => absurd c87 (by decide)) (fun c87 => ?_)
        refine lv_aload_n hx hb d_Sha_end_90 rfl (lv_at hl 3 rfl) ?_
        refine lv_aload_n hx hb d_Sha_end_91 rfl (lv_at hl 2 rfl) ?_
        refine va_get (D := (dC, dI)) (ci := 10) (v := .ref a) (C := R_Sha) (T := F_Sha) (N := 3) hx hb hts i_Sha hown hK hP 0 rfl rfl 0 (by decide) (hts _ m_50) (fun _ h9 => h9) rfl d_Sha_end_92 ?_
        refine lv_iload hx hb d_Sha_end_95 (lv_at hl 1 rfl) ?_
        refine kv_iald hx hb hK hP 1 0 rfl rfl (by omega) (by omega) d_Sha_end_97 ?_
        refine lv_topi (fun v_165 _ => ?_)
        refine lv_iload hx hb d_Sha_end_98 (lv_at hl 0 rfl) ?_
        refine lv_iushr hx hb d_Sha_end_100 rfl ?_
        refine lv_topi (fun v_166 _ => ?_)
        refine k_finv (wr := [(s0, .inr (10, [.ref a, .ref b, .int (nI 64)])), (a, .inl (ka, 8, .inl f_21)), (b, .inl (kb, 64, .inl g_22))]) [3, 4] [0, 1, 2] (k_runV (n := 1) (As := [.int v_166]) (rest := []) (wc := [(r0, .inr (1, [.ref rb, .int (nI 28)])), (rb, .inl (kr, 66, .inl g_162))]) ⟨hx, hb, hml, hown, hts⟩ (c_Row_put l dC dI r0 rb kr 66 28 g_162 v_166 _ (by omega) (by omega)) (kg_V m_223 m_156 m_157 m_10 (kg_code m_154)) (by decide +kernel) rfl rfl ⟨Nat.le_of_ble_eq_true rfl, Nat.le_of_ble_eq_true rfl⟩ [3, 4] [2] hP hD hK hS hA hZ hN (by rfl) (by decide) (by rfl) rfl rfl rfl rfl hl.1 rfl (Nat.le_of_ble_eq_true rfl) d_Sha_end_101 ⟨(Nat.le_of_ble_eq_true rfl), (Nat.le_of_ble_eq_true rfl)⟩) hP hD hK hS hA (by rfl) (by rfl) (by decide) (by decide) (fun u9 H locs hw_169 hP hD hK hS => ?_)
        obtain ⟨g_167, rfl⟩ : ∃ z, z = u9 := ⟨_, rfl⟩
        try dsimp only at hw_169
        have hP : va_P (dC, dI) CL [(s0, .inr (10, [.ref a, .ref b, .int (nI 64)])), (a, .inl (ka, 8, .inl f_21)), (b, .inl (kb, 64, .inl g_22)), (r0, .inr (1, [.ref rb, .int (nI 29)])), (rb, .inl (kr, 66, .inl g_167))] H := hP
        have hD : va_D A [(s0, .inr (10, [.ref a, .ref b, .int (nI 64)])), (a, .inl (ka, 8, .inl f_21)), (b, .inl (kb, 64, .inl g_22)), (r0, .inr (1, [.ref rb, .int (nI 29)])), (rb, .inl (kr, 66, .inl g_167))] := hD
        have hK : va_K (dC, dI) CL [(ka, .int), (kb, .int), (kr, .byte)] s := hK
        refine lv_iinc (v := (nI 16)) (lv' := [(5, .int (nI 16)), (4, .int (nI 7)), (0, .ref s0), (1, .ref r0), (2, .int (nI 0)), (3, .int (nI 59))]) hx hb d_Sha_end_104 hl (k := 0) rfl (by decide) (by decide) rfl (fun ls hl => ?_)
        refine lv_goto (tgt := 85) hx hb d_Sha_end_107 (by decide) ?_
        refine lv_iload hx hb d_Sha_end_85 (lv_at hl 0 rfl) ?_
        refine lv_if_lt (tgt := 110) hx hb d_Sha_end_87 (by decide) (fun c87 => absurd c87 (by decide)) (fun c87 => ?_)
        refine lv_aload_n hx hb d_Sha_end_90 rfl (lv_at hl 3 rfl) ?_
        refine lv_aload_n hx hb d_Sha_end_91 rfl (lv_at hl 2 rfl) ?_
        refine va_get (D := (dC, dI)) (ci := 10) (v := .ref a) (C := R_Sha) (T := F_Sha) (N := 3) hx hb hts i_Sha hown hK hP 0 rfl rfl 0 (by decide) (hts _ m_50) (fun _ h9 => h9) rfl d_Sha_end_92 ?_
        refine lv_iload hx hb d_Sha_end_95 (lv_at hl 1 rfl) ?_
        refine kv_iald hx hb hK hP 1 0 rfl rfl (by omega) (by omega) d_Sha_end_97 ?_
        refine lv_topi (fun v_170 _ => ?_)
        refine lv_iload hx hb d_Sha_end_98 (lv_at hl 0 rfl) ?_
        refine lv_iushr hx hb d_Sha_end_100 rfl ?_
        refine lv_topi (fun v_171 _ => ?_)
        refine k_finv (wr := [(s0, .inr (10, [.ref a, .ref b, .int (nI 64)])), (a, .inl (ka, 8, .inl f_21)), (b, .inl (kb, 64, .inl g_22))]) [3, 4] [0, 1, 2] (k_runV (n := 1) (As := [.int v_171]) (rest := []) (wc := [(r0, .inr (1, [.ref rb, .int (nI 29)])), (rb, .inl (kr, 66, .inl g_167))]) ⟨hx, hb, hml, hown, hts⟩ (c_Row_put l dC dI r0 rb kr 66 29 g_167 v_171 _ (by omega) (by omega)) (kg_V m_223 m_156 m_157 m_10 (kg_code m_154)) (by decide +kernel) rfl rfl ⟨Nat.le_of_ble_eq_true rfl, Nat.le_of_ble_eq_true rfl⟩ [3, 4] [2] hP hD hK hS hA hZ hN (by rfl) (by decide) (by rfl) rfl rfl rfl rfl hl.1 rfl (Nat.le_of_ble_eq_true rfl) d_Sha_end_101 ⟨(Nat.le_of_ble_eq_true rfl), (Nat.le_of_ble_eq_true rfl)⟩) hP hD hK hS hA (by rfl) (by rfl) (by decide) (by decide) (fun u9 H locs hw_174 hP hD hK hS => ?_)
        obtain ⟨g_172, rfl⟩ : ∃ z, z = u9 := ⟨_, rfl⟩
        try dsimp only at hw_174
        have hP : va_P (dC, dI) CL [(s0, .inr (10, [.ref a, .ref b, .int (nI 64)])), (a, .inl (ka, 8, .inl f_21)), (b, .inl (kb, 64, .inl g_22)), (r0, .inr (1, [.ref rb, .int (nI 30)])), (rb, .inl (kr, 66, .inl g_172))] H := hP
        have hD : va_D A [(s0, .inr (10, [.ref a, .ref b, .int (nI 64)])), (a, .inl (ka, 8, .inl f_21)), (b, .inl (kb, 64, .inl g_22)), (r0, .inr (1, [.ref rb, .int (nI 30)])), (rb, .inl (kr, 66, .inl g_172))] := hD
        have hK : va_K (dC, dI) CL [(ka, .int), (kb, .int), (kr, .byte)] s := hK
        refine lv_iinc (v := (nI 8)) (lv' := [(5, .int (nI 8)), (4, .int (nI 7)), (0, .ref s0), (1, .ref r0), (2, .int (nI 0)), (3, .int (nI 59))]) hx hb d_Sha_end_104 hl (k := 0) rfl (by decide) (by decide) rfl (fun ls hl => ?_)
        refine lv_goto (tgt := 85) hx hb d_Sha_end_107 (by decide) ?_
        refine lv_iload hx hb d_Sha_end_85 (lv_at hl 0 rfl) ?_
        refine lv_if_lt (tgt := 110) hx hb d_Sha_end_87 (by decide) (fun c87 => absurd c87 (by decide)) (fun c87 => ?_)
        refine lv_aload_n hx hb d_Sha_end_90 rfl (lv_at hl 3 rfl) ?_
        refine lv_aload_n hx hb d_Sha_end_91 rfl (lv_at hl 2 rfl) ?_
        refine va_get (D := (dC, dI)) (ci := 10) (v := .ref a) (C := R_Sha) (T := F_Sha) (N := 3) hx hb hts i_Sha hown hK hP 0 rfl rfl 0 (by decide) (hts _ m_50) (fun _ h9 => h9) rfl d_Sha_end_92 ?_
        refine lv_iload hx hb d_Sha_end_95 (lv_at hl 1 rfl) ?_
        refine kv_iald hx hb hK hP 1 0 rfl rfl (by omega) (by omega) d_Sha_end_97 ?_
        refine lv_topi (fun v_175 _ => ?_)
        refine lv_iload hx hb d_Sha_end_98 (lv_at hl 0 rfl) ?_
        refine lv_iushr hx hb d_Sha_end_100 rfl ?_
        refine lv_topi (fun v_176 _ => ?_)
        refine k_finv (wr := [(s0, .inr (10, [.ref a, .ref b, .int (nI 64)])), (a, .inl (ka, 8, .inl f_21)), (b, .inl (kb, 64, .inl g_22))]) [3, 4] [0, 1, 2] (k_runV (n := 1) (As := [.int v_176]) (rest := []) (wc := [(r0, .inr (1, [.ref rb, .int (nI 30)])), (rb, .inl (kr, 66, .inl g_172))]) ⟨hx, hb, hml, hown, hts⟩ (c_Row_put l dC dI r0 rb kr 66 30 g_172 v_176 _ (by omega) (by omega)) (kg_V m_223 m_156 m_157 m_10 (kg_code m_154)) (by decide +kernel) rfl rfl ⟨Nat.le_of_ble_eq_true rfl, Nat.le_of_ble_eq_true rfl⟩ [3, 4] [2] hP hD hK hS hA hZ hN (by rfl) (by decide) (by rfl) rfl rfl rfl rfl hl.1 rfl (Nat.le_of_ble_eq_true rfl) d_Sha_end_101 ⟨(Nat.le_of_ble_eq_true rfl), (Nat.le_of_ble_eq_true rfl)⟩) hP hD hK hS hA (by rfl) (by rfl) (by decide) (by decide) (fun u9 H locs hw_179 hP hD hK hS => ?_)
        obtain ⟨g_177, rfl⟩ : ∃ z, z = u9 := ⟨_, rfl⟩
        try dsimp only at hw_179
        have hP : va_P (dC, dI) CL [(s0, .inr (10, [.ref a, .ref b, .int (nI 64)])), (a, .inl (ka, 8, .inl f_21)), (b, .inl (kb, 64, .inl g_22)), (r0, .inr (1, [.ref rb, .int (nI 31)])), (rb, .inl (kr, 66, .inl g_177))] H := hP
        have hD : va_D A [(s0, .inr (10, [.ref a, .ref b, .int (nI 64)])), (a, .inl (ka, 8, .inl f_21)), (b, .inl (kb, 64, .inl g_22)), (r0, .inr (1, [.ref rb, .int (nI 31)])), (rb, .inl (kr, 66, .inl g_177))] := hD
        have hK : va_K (dC, dI) CL [(ka, .int), (kb, .int), (kr, .byte)] s := hK
        refine lv_iinc (v := (nI 0)) (lv' := [(5, .int (nI 0)), (4, .int (nI 7)), (0, .ref s0), (1, .ref r0), (2, .int (nI 0)), (3, .int (nI 59))]) hx hb d_Sha_end_104 hl (k := 0) rfl (by decide) (by decide) rfl (fun ls hl => ?_)
        refine lv_goto (tgt := 85) hx hb d_Sha_end_107 (by decide) ?_
        refine lv_iload hx hb d_Sha_end_85 (lv_at hl 0 rfl) ?_
        refine lv_if_lt (tgt := 110) hx hb d_Sha_end_87 (by decide) (fun c87 => absurd c87 (by decide)) (fun c87 => ?_)
        refine lv_aload_n hx hb d_Sha_end_90 rfl (lv_at hl 3 rfl) ?_
        refine lv_aload_n hx hb d_Sha_end_91 rfl (lv_at hl 2 rfl) ?_
        refine va_get (D := (dC, dI)) (ci := 10) (v := .ref a) (C := R_Sha) (T := F_Sha) (N := 3) hx hb hts i_Sha hown hK hP 0 rfl rfl 0 (by decide) (hts _ m_50) (fun _ h9 => h9) rfl d_Sha_end_92 ?_
        refine lv_iload hx hb d_Sha_end_95 (lv_at hl 1 rfl) ?_
        refine kv_iald hx hb hK hP 1 0 rfl rfl (by omega) (by omega) d_Sha_end_97 ?_
        refine lv_topi (fun v_180 _ => ?_)
        refine lv_iload hx hb d_Sha_end_98 (lv_at hl 0 rfl) ?_
        refine lv_iushr hx hb d_Sha_end_100 rfl ?_
        refine lv_topi (fun v_181 _ => ?_)
        refine k_finv (wr := [(s0, .inr (10, [.ref a, .ref b, .int (nI 64)])), (a, .inl (ka, 8, .inl f_21)), (b, .inl (kb, 64, .inl g_22))]) [3, 4] [0, 1, 2] (k_runV (n := 1) (As := [.int v_181]) (rest := []) (wc := [(r0, .inr (1, [.ref rb, .int (nI 31)])), (rb, .inl (kr, 66, .inl g_177))]) ⟨hx, hb, hml, hown, hts⟩ (c_Row_put l dC dI r0 rb kr 66 31 g_177 v_181 _ (by omega) (by omega)) (kg_V m_223 m_156 m_157 m_10 (kg_code m_154)) (by decide +kernel) rfl rfl ⟨Nat.le_of_ble_eq_true rfl, Nat.le_of_ble_eq_true rfl⟩ [3, 4] [2] hP hD hK hS hA hZ hN (by rfl) (by decide) (by rfl) rfl rfl rfl rfl hl.1 rfl (Nat.le_of_ble_eq_true rfl) d_Sha_end_101 ⟨(Nat.le_of_ble_eq_true rfl), (Nat.le_of_ble_eq_true rfl)⟩) hP hD hK hS hA (by rfl) (by rfl) (by decide) (by decide) (fun u9 H locs hw_184 hP hD hK hS => ?_)
        obtain ⟨g_182, rfl⟩ : ∃ z, z = u9 := ⟨_, rfl⟩
        try dsimp only at hw_184
        have hP : va_P (dC, dI) CL [(s0, .inr (10, [.ref a, .ref b, .int (nI 64)])), (a, .inl (ka, 8, .inl f_21)), (b, .inl (kb, 64, .inl g_22)), (r0, .inr (1, [.ref rb, .int (nI 32)])), (rb, .inl (kr, 66, .inl g_182))] H := hP
        have hD : va_D A [(s0, .inr (10, [.ref a, .ref b, .int (nI 64)])), (a, .inl (ka, 8, .inl f_21)), (b, .inl (kb, 64, .inl g_22)), (r0, .inr (1, [.ref rb, .int (nI 32)])), (rb, .inl (kr, 66, .inl g_182))] := hD
        have hK : va_K (dC, dI) CL [(ka, .int), (kb, .int), (kr, .byte)] s := hK
        refine lv_iinc (v := (-8)) (lv' := [(5, .int (-8)), (4, .int (nI 7)), (0, .ref s0), (1, .ref r0), (2, .int (nI 0)), (3, .int (nI 59))]) hx hb d_Sha_end_104 hl (k := 0) rfl (by decide) (by decide) rfl (fun ls hl => ?_)
        refine lv_goto (tgt := 85) hx hb d_Sha_end_107 (by decide) ?_
        refine lv_iload hx hb d_Sha_end_85 (lv_at hl 0 rfl) ?_
        refine lv_if_lt (tgt := 110) hx hb d_Sha_end_87 (by decide) (fun c87 => ?_) (fun c87 => absurd (by decide) c87)
        refine lv_iinc (v := (nI 8)) (lv' := [(4, .int (nI 8)), (5, .int (-8)), (0, .ref s0), (1, .ref r0), (2, .int (nI 0)), (3, .int (nI 59))]) hx hb d_Sha_end_110 hl (k := 1) rfl (k_inc _) (by decide) rfl (fun ls hl => ?_)
        refine lv_goto (tgt := 74) hx hb d_Sha_end_113 (by decide) ?_
        refine lv_iload hx hb d_Sha_end_74 (lv_at hl 0 rfl) ?_
        refine lv_bipush (v := (nI 8)) hx hb d_Sha_end_76 (by decide +kernel) ?_
        refine lv_icmp_ge (tgt := 116) hx hb d_Sha_end_78 (by decide) (fun c78 => ?_) (fun c78 => absurd (by decide) c78)
        have hP9 := hP.sub (ws' := [(s0, .inr (10, [.ref a, .ref b, .int (nI 64)])), (a, .inl (ka, 8, .inl f_21)), (b, .inl (kb, 64, .inl g_22)), (r0, .inr (1, [.ref rb, .int (nI 32)])), (rb, .inl (kr, 66, .inl g_182))]) [0, 1, 2, 3, 4] rfl
        have hD9 := hD.sub (ws' := [(s0, .inr (10, [.ref a, .ref b, .int (nI 64)])), (a, .inl (ka, 8, .inl f_21)), (b, .inl (kb, 64, .inl g_22)), (r0, .inr (1, [.ref rb, .int (nI 32)])), (rb, .inl (kr, 66, .inl g_182))]) [0, 1, 2, 3, 4] (by decide) rfl
        have hK9 := hK.sub (tys' := []) [] rfl
        rw [hQg]
        exact W.vret hx hb hr (fun t ht hW => ⟨⟨(f_21, g_22, g_182), rfl, trivial, by rw [ht]; exact hP9, va_K.moved hW.alike hK9, hD9⟩, hS.F ht⟩) hS.2.2 d_Sha_end_116
      · have c34 : ¬ (59 ≤ i9) := fun h => c34 ((nI_leI (by omega) (by omega)).mpr h)
        refine lv_aload_n hx hb d_Sha_end_37 rfl (lv_at hl 0 rfl) ?_
        refine lv_iconst (v := (nI 0)) hx hb d_Sha_end_38 (by decide +kernel) ?_
        refine k_finv (wr := [(r0, .inr (1, [.ref rb, .int (nI 0)])), (rb, .inl (kr, 66, .inl h))]) [0, 1, 2] [3, 4] (k_runV (n := 1) (As := [.int (nI 0)]) (rest := []) (wc := [(s0, .inr (10, [.ref a, .ref b, .int (nI (1 + i9))])), (a, .inl (ka, 8, .inl f9)), (b, .inl (kb, 64, .inl g9))]) ⟨hx, hb, hml, hown, hts⟩ (c_Sha_takeByte l dC dI s0 a b ka kb f9 g9 (1 + i9) (nI 0) _ (by omega)) (kg_V m_220 m_221 m_222 m_55 (kg_code m_219)) (by decide +kernel) rfl rfl ⟨Nat.le_of_ble_eq_true rfl, Nat.le_of_ble_eq_true rfl⟩ [0, 1, 2] [0, 1] hP hD hK hS hA hZ hN (by rfl) (by decide) (by rfl) rfl rfl rfl rfl hl.1 rfl (Nat.le_of_ble_eq_true rfl) d_Sha_end_39 ⟨(Nat.le_of_ble_eq_true rfl), (Nat.le_of_ble_eq_true rfl)⟩) hP hD hK hS hA (by rfl) (by rfl) (by decide) (by decide) (fun u9 H locs hw_188 hP hD hK hS => ?_)
        obtain ⟨f_185, g_186⟩ := u9
        try dsimp only at hw_188
        have hP : va_P (dC, dI) CL [(r0, .inr (1, [.ref rb, .int (nI 0)])), (rb, .inl (kr, 66, .inl h)), (s0, .inr (10, [.ref a, .ref b, .int (nI ((1 + i9) + 1))])), (a, .inl (ka, 8, .inl f_185)), (b, .inl (kb, 64, .inl g_186))] H := hP
        have hD : va_D A [(r0, .inr (1, [.ref rb, .int (nI 0)])), (rb, .inl (kr, 66, .inl h)), (s0, .inr (10, [.ref a, .ref b, .int (nI ((1 + i9) + 1))])), (a, .inl (ka, 8, .inl f_185)), (b, .inl (kb, 64, .inl g_186))] := hD
        have hK : va_K (dC, dI) CL [(ka, .int), (kb, .int), (kr, .byte)] s := hK
        refine lv_iinc (v := (nI (i9 + 1))) (lv' := [(4, .int (nI (i9 + 1))), (0, .ref s0), (1, .ref r0), (2, .int (nI 0)), (3, .int (nI 59))]) hx hb d_Sha_end_42 hl (k := 4) rfl (k_inc _) (by decide) rfl (fun ls hl => ?_)
        refine lv_goto (tgt := 31) hx hb d_Sha_end_45 (by decide) ?_
        exact ih31  (i9 + 1) f_185 g_186 _ _ _ (by omega) (by omega) (hP.sub [2, 3, 4, 0, 1] rfl) (hD.sub [2, 3, 4, 0, 1] (by decide) rfl) hS (lv_sub hl [1, 2, 3, 4, 0] rfl)
  exact lb_31 (59 - 0 + 1) 0 f_1 g_2 _ _ _ (Nat.zero_le _) (Nat.lt_succ_self _) (hP.sub [2, 3, 4, 0, 1] rfl) (hD.sub [2, 3, 4, 0, 1] (by decide) rfl) hS (lv_sub hl [3, 4, 2, 1, 0] rfl)
