-- ThresholdBench.feedWord
set_option maxHeartbeats 4000000 in
set_option maxRecDepth 100000 in
theorem c_TB_feedWord (l : Launch) (dC : Nat → ClassId) (dI : Nat → Nat → Nat) (h0 : Nat) (t0 : Nat) (b0 : Nat) (k0 : ClassId) (ln : Nat) (f : Nat → Int32) (cnt : Int32) (wd : Int32) (o1 : Value) (o2 : Value) (o3 : Value) (o4 : Value) (o5 : Value) (o6 : Value) (o7 : Value) (o8 : Value) (o9 : Value) (o10 : Value) (o11 : Value) (o12 : Value) (o13 : Value) (o14 : Value) (o15 : Value) (o16 : Value) (o17 : Value) (o18 : Value) (sz : Nat) (hln : ln + 4 ≤ 300) : Met l y_TB_feedWord (.code y_TB_feedWord prog_1_method_16_code 4 (none) :: AW) ({ frames := 1, cells := 0, slots := 0, locals := 21 } : Room) (va_Pc [.ref h0, .int cnt, .int wd] (pw (dC, dI) CL [(h0, .inr (0, [.ref t0, o1, o2, o3, o4, o5, o6, o7, o8, o9, o10, o11, o12, o13, o14, o15, o16, o17, o18])), (t0, .inr (1, [.ref b0, .int (nI ln)])), (b0, .inl (k0, 300, .inl f))] [(k0, .byte)] sz)) (va_Qv (fun u : Nat × (Nat → Int32) => (u.1 : Int) = ln + max 0 (min 4 cnt.toInt)) (fun (u : Nat × (Nat → Int32)) t => qw (dC, dI) CL (va_A [(h0, .inr (0, [.ref t0, o1, o2, o3, o4, o5, o6, o7, o8, o9, o10, o11, o12, o13, o14, o15, o16, o17, o18])), (t0, .inr (1, [.ref b0, .int (nI ln)])), (b0, .inl (k0, 300, .inl f))] sz) ((fun u : Nat × (Nat → Int32) => [(h0, .inr (0, [.ref t0, o1, o2, o3, o4, o5, o6, o7, o8, o9, o10, o11, o12, o13, o14, o15, o16, o17, o18])), (t0, .inr (1, [.ref b0, .int (nI u.1)])), (b0, .inl (k0, 300, .inl u.2))]) u) ((fun u : Nat × (Nat → Int32) => []) u) t) (va_A [(h0, .inr (0, [.ref t0, o1, o2, o3, o4, o5, o6, o7, o8, o9, o10, o11, o12, o13, o14, o15, o16, o17, o18])), (t0, .inr (1, [.ref b0, .int (nI ln)])), (b0, .inl (k0, 300, .inl f))] sz)) 0 0 (va_A [(h0, .inr (0, [.ref t0, o1, o2, o3, o4, o5, o6, o7, o8, o9, o10, o11, o12, o13, o14, o15, o16, o17, o18])), (t0, .inr (1, [.ref b0, .int (nI ln)])), (b0, .inl (k0, 300, .inl f))] sz) := by
  refine Met.ofW (cc := prog_1_method_16_code) (maxL := 4) (ret := none) (by decide) rfl ?_
  intro p e s m args below meth c s₁ B hml hv
  obtain ⟨rfl, hsz, hP, hK, hD0, hZ, hN⟩ := hv
  have hx := B.exec
  have hb := B.bytes
  have hr := B.returns
  have hts := kw (atoms_spec (ws := .code y_TB_feedWord prog_1_method_16_code 4 (none) :: AW) B.pre)
  have hown : s.vm.findClass R_TB = some m.cls := findClass_of_methodNamed B.named
  have hlocks := B.notSynchronized
  subst hsz
  have hD := hD0.self (sz := s.heap.size)
  obtain ⟨Qg, hQg⟩ : ∃ q, q = MQ below (va_Qv (fun u : Nat × (Nat → Int32) => (u.1 : Int) = ln + max 0 (min 4 cnt.toInt)) (fun (u : Nat × (Nat → Int32)) t => qw (dC, dI) CL (va_A [(h0, .inr (0, [.ref t0, o1, o2, o3, o4, o5, o6, o7, o8, o9, o10, o11, o12, o13, o14, o15, o16, o17, o18])), (t0, .inr (1, [.ref b0, .int (nI ln)])), (b0, .inl (k0, 300, .inl f))] s.heap.size) ((fun u : Nat × (Nat → Int32) => [(h0, .inr (0, [.ref t0, o1, o2, o3, o4, o5, o6, o7, o8, o9, o10, o11, o12, o13, o14, o15, o16, o17, o18])), (t0, .inr (1, [.ref b0, .int (nI u.1)])), (b0, .inl (k0, 300, .inl u.2))]) u) ((fun u : Nat × (Nat → Int32) => []) u) t) (va_A [(h0, .inr (0, [.ref t0, o1, o2, o3, o4, o5, o6, o7, o8, o9, o10, o11, o12, o13, o14, o15, o16, o17, o18])), (t0, .inr (1, [.ref b0, .int (nI ln)])), (b0, .inl (k0, 300, .inl f))] s.heap.size)) ([.ref h0, .int cnt, .int wd] : List Value).toArray s 0 0 (va_A [(h0, .inr (0, [.ref t0, o1, o2, o3, o4, o5, o6, o7, o8, o9, o10, o11, o12, o13, o14, o15, o16, o17, o18])), (t0, .inr (1, [.ref b0, .int (nI ln)])), (b0, .inl (k0, 300, .inl f))] s.heap.size) := ⟨_, rfl⟩
  rw [← hQg]
  generalize hAe : va_A [(h0, .inr (0, [.ref t0, o1, o2, o3, o4, o5, o6, o7, o8, o9, o10, o11, o12, o13, o14, o15, o16, o17, o18])), (t0, .inr (1, [.ref b0, .int (nI ln)])), (b0, .inl (k0, 300, .inl f))] s.heap.size = A at hD hZ hQg
  have hA : ∀ q : Nat, s.heap.size ≤ q → A q := fun q h => by rw [← hAe]; exact Or.inr h
  have hS : va_S A s.heap s.heap [] := va_S.rf
  have hP : va_P (dC, dI) CL [(h0, .inr (0, [.ref t0, o1, o2, o3, o4, o5, o6, o7, o8, o9, o10, o11, o12, o13, o14, o15, o16, o17, o18])), (t0, .inr (1, [.ref b0, .int (nI ln)])), (b0, .inl (k0, 300, .inl f))] s.heap := hP
  have hl := lv_entry ([.ref h0, .int cnt, .int wd]) (n := 4) (Nat.le_of_ble_eq_true rfl)
  rw [lg_entry_eq]
  generalize (lg_sl ([.ref h0, .int cnt, .int wd]) ++ List.replicate (4 - (lg_sl ([.ref h0, .int cnt, .int wd])).length) Slot.unset).toArray = ls at hl ⊢
  have hl : lv_has ls 4 [(0, .ref h0), (1, .int cnt), (2, .int wd)] := hl
  show W p l e ({ frames := 1, cells := 0, slots := 0, locals := 21 } : Room) s m ([.ref h0, .int cnt, .int wd] : List Value).toArray below meth c s.heap [] 0 0 Qg (F0 m 0 ls [])
  refine lv_iconst (v := (nI 0)) hx hb d_TB_feedWord_0 (by decide +kernel) ?_
  refine lv_istore_n (lv' := [(3, .int (nI 0)), (0, .ref h0), (1, .int cnt), (2, .int wd)]) hx hb d_TB_feedWord_1 rfl hl (by decide) rfl (fun ls hl => ?_)
  have lb_2 : ∀ (n9 : Nat) (i9 : Nat) (f9 : Nat → Int32) (H : Heap) (locs : List Loc) (ls : Array Slot), (i9 ≤ 4) → (i9 = 0 ∨ (i9 : Int) ≤ cnt.toInt) → (4 - i9 < n9) → va_P (dC, dI) CL [(h0, .inr (0, [.ref t0, o1, o2, o3, o4, o5, o6, o7, o8, o9, o10, o11, o12, o13, o14, o15, o16, o17, o18])), (t0, .inr (1, [.ref b0, .int (nI (ln + i9))])), (b0, .inl (k0, 300, .inl f9))] H → va_D A [(h0, .inr (0, [.ref t0, o1, o2, o3, o4, o5, o6, o7, o8, o9, o10, o11, o12, o13, o14, o15, o16, o17, o18])), (t0, .inr (1, [.ref b0, .int (nI (ln + i9))])), (b0, .inl (k0, 300, .inl f9))] → va_S A s.heap H locs → lv_has ls 4 [(0, .ref h0), (1, .int cnt), (2, .int wd), (3, .int (nI i9))] → W p l e ({ frames := 1, cells := 0, slots := 0, locals := 21 } : Room) s m ([.ref h0, .int cnt, .int wd] : List Value).toArray below meth c H locs 0 0 Qg (F0 m 2 ls []) := by
    intro n9
    induction n9 with
    | zero => intro i9 f9 H locs ls hi9 hc9 hm9; exact absurd hm9 (Nat.not_lt_zero _)
    | succ n9 ih2 =>
      intro i9 f9 H locs ls hi9 hc9 hm2 hP hD hS hl
      refine lv_iload_n hx hb d_TB_feedWord_2 rfl (lv_at hl 3 rfl) ?_
      refine lv_iconst (v := (nI 4)) hx hb d_TB_feedWord_3 (by decide +kernel) ?_
      refine lv_icmp_ge (tgt := 34) hx hb d_TB_feedWord_4 (by decide) (fun c4 => ?_) (fun c4 => ?_)
      · have c4 : 4 ≤ i9 := (nI_leI (by omega) (by omega)).mp c4
        have hP9 := hP.sub (ws' := [(h0, .inr (0, [.ref t0, o1, o2, o3, o4, o5, o6, o7, o8, o9, o10, o11, o12, o13, o14, o15, o16, o17, o18])), (t0, .inr (1, [.ref b0, .int (nI (ln + i9))])), (b0, .inl (k0, 300, .inl f9))]) [0, 1, 2] rfl
        have hD9 := hD.sub (ws' := [(h0, .inr (0, [.ref t0, o1, o2, o3, o4, o5, o6, o7, o8, o9, o10, o11, o12, o13, o14, o15, o16, o17, o18])), (t0, .inr (1, [.ref b0, .int (nI (ln + i9))])), (b0, .inl (k0, 300, .inl f9))]) [0, 1, 2] (by decide) rfl
        have hK9 := hK.sub (tys' := []) [] rfl
        rw [hQg]
        exact W.vret hx hb hr (fun t ht hW => ⟨⟨((ln + i9), f9), rfl, (by first | (have h9 := k_le c9 (by omega); rcases hc9 with h8 | h8 <;> omega) | (rcases hc9 with h8 | h8 <;> omega)), by rw [ht]; exact hP9, va_K.moved hW.alike hK9, hD9⟩, hS.F ht⟩) hS.2.2 d_TB_feedWord_34
      · have c4 : ¬ (4 ≤ i9) := fun h => c4 ((nI_leI (by omega) (by omega)).mpr h)
        refine lv_iload_n hx hb d_TB_feedWord_7 rfl (lv_at hl 3 rfl) ?_
        refine lv_iload_n hx hb d_TB_feedWord_8 rfl (lv_at hl 1 rfl) ?_
        refine lv_icmp_ge (tgt := 34) hx hb d_TB_feedWord_9 (by decide) (fun c9 => ?_) (fun c9 => ?_)
        · have hP9 := hP.sub (ws' := [(h0, .inr (0, [.ref t0, o1, o2, o3, o4, o5, o6, o7, o8, o9, o10, o11, o12, o13, o14, o15, o16, o17, o18])), (t0, .inr (1, [.ref b0, .int (nI (ln + i9))])), (b0, .inl (k0, 300, .inl f9))]) [0, 1, 2] rfl
          have hD9 := hD.sub (ws' := [(h0, .inr (0, [.ref t0, o1, o2, o3, o4, o5, o6, o7, o8, o9, o10, o11, o12, o13, o14, o15, o16, o17, o18])), (t0, .inr (1, [.ref b0, .int (nI (ln + i9))])), (b0, .inl (k0, 300, .inl f9))]) [0, 1, 2] (by decide) rfl
          have hK9 := hK.sub (tys' := []) [] rfl
          rw [hQg]
          exact W.vret hx hb hr (fun t ht hW => ⟨⟨((ln + i9), f9), rfl, (by first | (have h9 := k_le c9 (by omega); rcases hc9 with h8 | h8 <;> omega) | (rcases hc9 with h8 | h8 <;> omega)), by rw [ht]; exact hP9, va_K.moved hW.alike hK9, hD9⟩, hS.F ht⟩) hS.2.2 d_TB_feedWord_34
        · refine lv_aload_n hx hb d_TB_feedWord_12 rfl (lv_at hl 0 rfl) ?_
          refine va_get (D := (dC, dI)) (ci := 0) (v := .ref t0) (C := R_TB) (T := F_TB) (N := 19) hx hb hts i_TB hown hK hP 0 rfl rfl 0 (by decide) (hts _ m_105) (fun _ h9 => h9) rfl d_TB_feedWord_13 ?_
          refine lv_iload_n hx hb d_TB_feedWord_16 rfl (lv_at hl 2 rfl) ?_
          refine lv_bipush (v := (nI 24)) hx hb d_TB_feedWord_17 (by decide +kernel) ?_
          refine lv_bipush (v := (nI 8)) hx hb d_TB_feedWord_19 (by decide +kernel) ?_
          refine lv_iload_n hx hb d_TB_feedWord_21 rfl (lv_at hl 3 rfl) ?_
          refine lv_imul hx hb d_TB_feedWord_22 ?_
          refine ki (v := nI (8 * i9)) (k_mul 8 i9 rfl) ?_
          refine lv_isub hx hb d_TB_feedWord_23 ?_
          refine lv_iushr hx hb d_TB_feedWord_24 rfl ?_
          refine k_finv (wr := [(h0, .inr (0, [.ref t0, o1, o2, o3, o4, o5, o6, o7, o8, o9, o10, o11, o12, o13, o14, o15, o16, o17, o18]))]) [1, 2] [0] (k_runV (n := 1) (As := [.int ((wd.toUInt32 >>> (((nI 24) - (nI (8 * i9))).toUInt32 &&& Int32.toUInt32 31)).toInt32)]) (rest := []) (wc := [(t0, .inr (1, [.ref b0, .int (nI (ln + i9))])), (b0, .inl (k0, 300, .inl f9))]) ⟨hx, hb, hml, hown, hts⟩ (c_Row_put l dC dI t0 b0 k0 300 (ln + i9) f9 ((wd.toUInt32 >>> (((nI 24) - (nI (8 * i9))).toUInt32 &&& Int32.toUInt32 31)).toInt32) _ (by omega) (by decide)) (kg_V m_155 m_156 m_157 m_10 (kg_code m_154)) (by decide +kernel) rfl rfl ⟨Nat.le_of_ble_eq_true rfl, Nat.le_of_ble_eq_true rfl⟩ [1, 2] [0] hP hD hK hS hA hZ hN (by rfl) (by decide) (by rfl) rfl rfl rfl rfl hl.1 rfl (Nat.le_of_ble_eq_true rfl) d_TB_feedWord_25 ⟨(Nat.le_of_ble_eq_true rfl), (Nat.le_of_ble_eq_true rfl)⟩) hP hD hK hS hA (by rfl) (by rfl) (by decide) (by decide) (fun u9 H locs hw_3 hP hD hK hS => ?_)
          obtain ⟨g_1, rfl⟩ : ∃ z, z = u9 := ⟨_, rfl⟩
          try dsimp only at hw_3
          have hP : va_P (dC, dI) CL [(h0, .inr (0, [.ref t0, o1, o2, o3, o4, o5, o6, o7, o8, o9, o10, o11, o12, o13, o14, o15, o16, o17, o18])), (t0, .inr (1, [.ref b0, .int (nI ((ln + i9) + 1))])), (b0, .inl (k0, 300, .inl g_1))] H := hP
          have hD : va_D A [(h0, .inr (0, [.ref t0, o1, o2, o3, o4, o5, o6, o7, o8, o9, o10, o11, o12, o13, o14, o15, o16, o17, o18])), (t0, .inr (1, [.ref b0, .int (nI ((ln + i9) + 1))])), (b0, .inl (k0, 300, .inl g_1))] := hD
          have hK : va_K (dC, dI) CL [(k0, .byte)] s := hK
          refine lv_iinc (v := (nI (i9 + 1))) (lv' := [(3, .int (nI (i9 + 1))), (0, .ref h0), (1, .int cnt), (2, .int wd)]) hx hb d_TB_feedWord_28 hl (k := 3) rfl (k_inc _) (by decide) rfl (fun ls hl => ?_)
          refine lv_goto (tgt := 2) hx hb d_TB_feedWord_31 (by decide) ?_
          exact ih2  (i9 + 1) g_1 _ _ _ (by omega) (Or.inr (by have h9 := k_nle c9 (by omega); omega)) (by omega) (hP.sub [0, 1, 2] rfl) (hD.sub [0, 1, 2] (by decide) rfl) hS (lv_sub hl [1, 2, 3, 0] rfl)
  exact lb_2 (4 - 0 + 1) 0 f _ _ _ (Nat.zero_le _) (Or.inl rfl) (Nat.lt_succ_self _) (hP.sub [0, 1, 2] rfl) (hD.sub [0, 1, 2] (by decide) rfl) hS (lv_sub hl [1, 2, 3, 0] rfl)

-- ThresholdBench.feed
set_option maxHeartbeats 4000000 in
set_option maxRecDepth 100000 in
theorem c_TB_feed (l : Launch) (dC : Nat → ClassId) (dI : Nat → Nat → Nat) (h0 : Nat) (t0 : Nat) (b0 : Nat) (k0 : ClassId) (f : Nat → Int32) (p1 : Int32) (p2 : Int32) (p3 : Int32) (p4 : Int32) (p5 : Int32) (p6 : Int32) (o1 : Value) (o2 : Value) (o3 : Value) (o4 : Value) (o5 : Value) (o6 : Value) (o7 : Value) (o8 : Value) (o9 : Value) (o10 : Value) (o11 : Value) (o12 : Value) (o13 : Value) (o14 : Value) (o15 : Value) (o16 : Value) (o17 : Value) (o18 : Value) (sz : Nat)  : Met l y_TB_feed (.code y_TB_feed prog_1_method_2_code 7 (some .int) :: AW) ({ frames := 2, cells := 0, slots := 0, locals := 44 } : Room) (va_Pc [.ref h0, .int p1, .int p2, .int p3, .int p4, .int p5, .int p6] (pw (dC, dI) CL [(h0, .inr (0, [.ref t0, o1, o2, o3, o4, o5, o6, o7, o8, o9, o10, o11, o12, o13, o14, o15, o16, o17, o18])), (t0, .inr (1, [.ref b0, .int (nI 0)])), (b0, .inl (k0, 300, .inl f))] [(k0, .byte)] sz)) (va_Qi (fun (r : Int32) (u : Unit) => r = kf p1) (fun (u : Unit) t => qw (dC, dI) CL (va_A [(h0, .inr (0, [.ref t0, o1, o2, o3, o4, o5, o6, o7, o8, o9, o10, o11, o12, o13, o14, o15, o16, o17, o18])), (t0, .inr (1, [.ref b0, .int (nI 0)])), (b0, .inl (k0, 300, .inl f))] sz) ((fun _ : Unit => []) u) ((fun _ : Unit => []) u) t) (va_A [(h0, .inr (0, [.ref t0, o1, o2, o3, o4, o5, o6, o7, o8, o9, o10, o11, o12, o13, o14, o15, o16, o17, o18])), (t0, .inr (1, [.ref b0, .int (nI 0)])), (b0, .inl (k0, 300, .inl f))] sz)) 0 0 (va_A [(h0, .inr (0, [.ref t0, o1, o2, o3, o4, o5, o6, o7, o8, o9, o10, o11, o12, o13, o14, o15, o16, o17, o18])), (t0, .inr (1, [.ref b0, .int (nI 0)])), (b0, .inl (k0, 300, .inl f))] sz) := by
  refine Met.ofW (cc := prog_1_method_2_code) (maxL := 7) (ret := (some .int)) (by decide) rfl ?_
  intro p e s m args below meth c s₁ B hml hv
  obtain ⟨rfl, hsz, hP, hK, hD0, hZ, hN⟩ := hv
  have hx := B.exec
  have hb := B.bytes
  have hr := B.returns
  have hts := kw (atoms_spec (ws := .code y_TB_feed prog_1_method_2_code 7 (some .int) :: AW) B.pre)
  have hown : s.vm.findClass R_TB = some m.cls := findClass_of_methodNamed B.named
  have hlocks := B.notSynchronized
  subst hsz
  have hD := hD0.self (sz := s.heap.size)
  obtain ⟨Qg, hQg⟩ : ∃ q, q = MQ below (va_Qi (fun (r : Int32) (u : Unit) => r = kf p1) (fun (u : Unit) t => qw (dC, dI) CL (va_A [(h0, .inr (0, [.ref t0, o1, o2, o3, o4, o5, o6, o7, o8, o9, o10, o11, o12, o13, o14, o15, o16, o17, o18])), (t0, .inr (1, [.ref b0, .int (nI 0)])), (b0, .inl (k0, 300, .inl f))] s.heap.size) ((fun _ : Unit => []) u) ((fun _ : Unit => []) u) t) (va_A [(h0, .inr (0, [.ref t0, o1, o2, o3, o4, o5, o6, o7, o8, o9, o10, o11, o12, o13, o14, o15, o16, o17, o18])), (t0, .inr (1, [.ref b0, .int (nI 0)])), (b0, .inl (k0, 300, .inl f))] s.heap.size)) ([.ref h0, .int p1, .int p2, .int p3, .int p4, .int p5, .int p6] : List Value).toArray s 0 0 (va_A [(h0, .inr (0, [.ref t0, o1, o2, o3, o4, o5, o6, o7, o8, o9, o10, o11, o12, o13, o14, o15, o16, o17, o18])), (t0, .inr (1, [.ref b0, .int (nI 0)])), (b0, .inl (k0, 300, .inl f))] s.heap.size) := ⟨_, rfl⟩
  rw [← hQg]
  generalize hAe : va_A [(h0, .inr (0, [.ref t0, o1, o2, o3, o4, o5, o6, o7, o8, o9, o10, o11, o12, o13, o14, o15, o16, o17, o18])), (t0, .inr (1, [.ref b0, .int (nI 0)])), (b0, .inl (k0, 300, .inl f))] s.heap.size = A at hD hZ hQg
  have hA : ∀ q : Nat, s.heap.size ≤ q → A q := fun q h => by rw [← hAe]; exact Or.inr h
  have hS : va_S A s.heap s.heap [] := va_S.rf
  have hP : va_P (dC, dI) CL [(h0, .inr (0, [.ref t0, o1, o2, o3, o4, o5, o6, o7, o8, o9, o10, o11, o12, o13, o14, o15, o16, o17, o18])), (t0, .inr (1, [.ref b0, .int (nI 0)])), (b0, .inl (k0, 300, .inl f))] s.heap := hP
  have hl := lv_entry ([.ref h0, .int p1, .int p2, .int p3, .int p4, .int p5, .int p6]) (n := 7) (Nat.le_of_ble_eq_true rfl)
  rw [lg_entry_eq]
  generalize (lg_sl ([.ref h0, .int p1, .int p2, .int p3, .int p4, .int p5, .int p6]) ++ List.replicate (7 - (lg_sl ([.ref h0, .int p1, .int p2, .int p3, .int p4, .int p5, .int p6])).length) Slot.unset).toArray = ls at hl ⊢
  have hl : lv_has ls 7 [(0, .ref h0), (1, .int p1), (2, .int p2), (3, .int p3), (4, .int p4), (5, .int p5), (6, .int p6)] := hl
  show W p l e ({ frames := 2, cells := 0, slots := 0, locals := 44 } : Room) s m ([.ref h0, .int p1, .int p2, .int p3, .int p4, .int p5, .int p6] : List Value).toArray below meth c s.heap [] 0 0 Qg (F0 m 0 ls [])
  refine lv_iload_n hx hb d_TB_feed_0 rfl (lv_at hl 1 rfl) ?_
  refine lv_if_lt (tgt := 25) hx hb d_TB_feed_1 (by decide) (fun c1 => ?_) (fun c1 => ?_)
  · refine lv_iconst (v := (-1)) hx hb d_TB_feed_25 (by decide +kernel) ?_
    have hP9 := hP.sub (ws' := []) [] rfl
    have hD9 := hD.sub (ws' := []) [] (by decide) rfl
    have hK9 := hK.sub (tys' := []) [] rfl
    rw [hQg]
    exact W.iret (v := (-1)) hx hb hr (fun t ht hW => ⟨⟨(-1), (), rfl, (by first | exact (k_f1 c1).symm | exact (k_f2 c7).symm), by rw [ht]; exact hP9, va_K.moved hW.alike hK9, hD9⟩, hS.F ht⟩) hS.2.2 d_TB_feed_26
  · refine lv_iload_n hx hb d_TB_feed_4 rfl (lv_at hl 1 rfl) ?_
    refine lv_bipush (v := (nI 20)) hx hb d_TB_feed_5 (by decide +kernel) ?_
    refine lv_icmp_gt (tgt := 25) hx hb d_TB_feed_7 (by decide) (fun c7 => ?_) (fun c7 => ?_)
    · refine lv_iconst (v := (-1)) hx hb d_TB_feed_25 (by decide +kernel) ?_
      have hP9 := hP.sub (ws' := []) [] rfl
      have hD9 := hD.sub (ws' := []) [] (by decide) rfl
      have hK9 := hK.sub (tys' := []) [] rfl
      rw [hQg]
      exact W.iret (v := (-1)) hx hb hr (fun t ht hW => ⟨⟨(-1), (), rfl, (by first | exact (k_f1 c1).symm | exact (k_f2 c7).symm), by rw [ht]; exact hP9, va_K.moved hW.alike hK9, hD9⟩, hS.F ht⟩) hS.2.2 d_TB_feed_26
    · refine lv_aload_n hx hb d_TB_feed_10 rfl (lv_at hl 0 rfl) ?_
      refine va_get (D := (dC, dI)) (ci := 0) (v := .ref t0) (C := R_TB) (T := F_TB) (N := 19) hx hb hts i_TB hown hK hP 0 rfl rfl 0 (by decide) (hts _ m_105) (fun _ h9 => h9) rfl d_TB_feed_11 ?_
      refine va_get (D := (dC, dI)) (ci := 1) (v := .int (nI 0)) (C := R_Row) (T := F_Row) (N := 2) hx hb hts i_Row hown hK hP 1 rfl rfl 1 (by decide) (hts _ m_158) (fun _ h9 => h9) rfl d_TB_feed_14 ?_
      refine lv_iload_n hx hb d_TB_feed_17 rfl (lv_at hl 1 rfl) ?_
      refine lv_iadd hx hb d_TB_feed_18 ?_
      refine lv_sipush (v := (nI 300)) hx hb d_TB_feed_19 (by decide +kernel) ?_
      refine lv_icmp_le (tgt := 27) hx hb d_TB_feed_22 (by decide) (fun c22 => ?_) (fun c22 => absurd (k_tape c1 c7) c22)
      obtain ⟨j9, hj9, ej9⟩ := k_feed c1 c7
      refine lv_aload_n hx hb d_TB_feed_27 rfl (lv_at hl 0 rfl) ?_
      refine lv_iload_n hx hb d_TB_feed_28 rfl (lv_at hl 1 rfl) ?_
      refine lv_iload_n hx hb d_TB_feed_29 rfl (lv_at hl 2 rfl) ?_
      refine k_finv (wr := []) [0, 1, 2] [] (k_runV (n := 2) (As := [.int p1, .int p2]) (rest := []) (wc := [(h0, .inr (0, [.ref t0, o1, o2, o3, o4, o5, o6, o7, o8, o9, o10, o11, o12, o13, o14, o15, o16, o17, o18])), (t0, .inr (1, [.ref b0, .int (nI 0)])), (b0, .inl (k0, 300, .inl f))]) ⟨hx, hb, hml, hown, hts⟩ (c_TB_feedWord l dC dI h0 t0 b0 k0 0 f p1 p2 o1 o2 o3 o4 o5 o6 o7 o8 o9 o10 o11 o12 o13 o14 o15 o16 o17 o18 _ (by omega)) (kg_V m_160 m_161 m_162 m_163 (kg_code m_159)) (by decide +kernel) rfl rfl ⟨Nat.le_of_ble_eq_true rfl, Nat.le_of_ble_eq_true rfl⟩ [0, 1, 2] [0] hP hD hK hS hA hZ hN (by rfl) (by decide) (by rfl) rfl rfl rfl rfl hl.1 rfl (Nat.le_of_ble_eq_true rfl) d_TB_feed_30 ⟨(Nat.le_of_ble_eq_true rfl), (Nat.le_of_ble_eq_true rfl)⟩) hP hD hK hS hA (by rfl) (by rfl) (by decide) (by decide) (fun u9 H locs hw_4 hP hD hK hS => ?_)
      obtain ⟨l_1, g_2⟩ := u9
      try dsimp only at hw_4
      have hP : va_P (dC, dI) CL [(h0, .inr (0, [.ref t0, o1, o2, o3, o4, o5, o6, o7, o8, o9, o10, o11, o12, o13, o14, o15, o16, o17, o18])), (t0, .inr (1, [.ref b0, .int (nI l_1)])), (b0, .inl (k0, 300, .inl g_2))] H := hP
      have hD : va_D A [(h0, .inr (0, [.ref t0, o1, o2, o3, o4, o5, o6, o7, o8, o9, o10, o11, o12, o13, o14, o15, o16, o17, o18])), (t0, .inr (1, [.ref b0, .int (nI l_1)])), (b0, .inl (k0, 300, .inl g_2))] := hD
      have hK : va_K (dC, dI) CL [(k0, .byte)] s := hK
      rw [show p1.toInt = (j9 : Int) by rw [ej9]; exact nI_toInt (by omega)] at hw_4
      refine lv_aload_n hx hb d_TB_feed_33 rfl (lv_at hl 0 rfl) ?_
      refine lv_iload_n hx hb d_TB_feed_34 rfl (lv_at hl 1 rfl) ?_
      refine lv_iconst (v := (nI 4)) hx hb d_TB_feed_35 (by decide +kernel) ?_
      refine lv_isub hx hb d_TB_feed_36 ?_
      refine lv_iload_n hx hb d_TB_feed_37 rfl (lv_at hl 3 rfl) ?_
      refine k_finv (wr := []) [0, 1, 2] [] (k_runV (n := 2) (As := [.int (p1 - (nI 4)), .int p3]) (rest := []) (wc := [(h0, .inr (0, [.ref t0, o1, o2, o3, o4, o5, o6, o7, o8, o9, o10, o11, o12, o13, o14, o15, o16, o17, o18])), (t0, .inr (1, [.ref b0, .int (nI l_1)])), (b0, .inl (k0, 300, .inl g_2))]) ⟨hx, hb, hml, hown, hts⟩ (c_TB_feedWord l dC dI h0 t0 b0 k0 l_1 g_2 (p1 - (nI 4)) p3 o1 o2 o3 o4 o5 o6 o7 o8 o9 o10 o11 o12 o13 o14 o15 o16 o17 o18 _ (by omega)) (kg_V m_160 m_161 m_162 m_163 (kg_code m_159)) (by decide +kernel) rfl rfl ⟨Nat.le_of_ble_eq_true rfl, Nat.le_of_ble_eq_true rfl⟩ [0, 1, 2] [0] hP hD hK hS hA hZ hN (by rfl) (by decide) (by rfl) rfl rfl rfl rfl hl.1 rfl (Nat.le_of_ble_eq_true rfl) d_TB_feed_38 ⟨(Nat.le_of_ble_eq_true rfl), (Nat.le_of_ble_eq_true rfl)⟩) hP hD hK hS hA (by rfl) (by rfl) (by decide) (by decide) (fun u9 H locs hw_8 hP hD hK hS => ?_)
      obtain ⟨l_5, g_6⟩ := u9
      try dsimp only at hw_8
      have hP : va_P (dC, dI) CL [(h0, .inr (0, [.ref t0, o1, o2, o3, o4, o5, o6, o7, o8, o9, o10, o11, o12, o13, o14, o15, o16, o17, o18])), (t0, .inr (1, [.ref b0, .int (nI l_5)])), (b0, .inl (k0, 300, .inl g_6))] H := hP
      have hD : va_D A [(h0, .inr (0, [.ref t0, o1, o2, o3, o4, o5, o6, o7, o8, o9, o10, o11, o12, o13, o14, o15, o16, o17, o18])), (t0, .inr (1, [.ref b0, .int (nI l_5)])), (b0, .inl (k0, 300, .inl g_6))] := hD
      have hK : va_K (dC, dI) CL [(k0, .byte)] s := hK
      rw [k_subI (k := 4) ej9 hj9 (by decide)] at hw_8
      refine lv_aload_n hx hb d_TB_feed_41 rfl (lv_at hl 0 rfl) ?_
      refine lv_iload_n hx hb d_TB_feed_42 rfl (lv_at hl 1 rfl) ?_
      refine lv_bipush (v := (nI 8)) hx hb d_TB_feed_43 (by decide +kernel) ?_
      refine lv_isub hx hb d_TB_feed_45 ?_
      refine lv_iload hx hb d_TB_feed_46 (lv_at hl 4 rfl) ?_
      refine k_finv (wr := []) [0, 1, 2] [] (k_runV (n := 2) (As := [.int (p1 - (nI 8)), .int p4]) (rest := []) (wc := [(h0, .inr (0, [.ref t0, o1, o2, o3, o4, o5, o6, o7, o8, o9, o10, o11, o12, o13, o14, o15, o16, o17, o18])), (t0, .inr (1, [.ref b0, .int (nI l_5)])), (b0, .inl (k0, 300, .inl g_6))]) ⟨hx, hb, hml, hown, hts⟩ (c_TB_feedWord l dC dI h0 t0 b0 k0 l_5 g_6 (p1 - (nI 8)) p4 o1 o2 o3 o4 o5 o6 o7 o8 o9 o10 o11 o12 o13 o14 o15 o16 o17 o18 _ (by omega)) (kg_V m_160 m_161 m_162 m_163 (kg_code m_159)) (by decide +kernel) rfl rfl ⟨Nat.le_of_ble_eq_true rfl, Nat.le_of_ble_eq_true rfl⟩ [0, 1, 2] [0] hP hD hK hS hA hZ hN (by rfl) (by decide) (by rfl) rfl rfl rfl rfl hl.1 rfl (Nat.le_of_ble_eq_true rfl) d_TB_feed_48 ⟨(Nat.le_of_ble_eq_true rfl), (Nat.le_of_ble_eq_true rfl)⟩) hP hD hK hS hA (by rfl) (by rfl) (by decide) (by decide) (fun u9 H locs hw_12 hP hD hK hS => ?_)
      obtain ⟨l_9, g_10⟩ := u9
      try dsimp only at hw_12
      have hP : va_P (dC, dI) CL [(h0, .inr (0, [.ref t0, o1, o2, o3, o4, o5, o6, o7, o8, o9, o10, o11, o12, o13, o14, o15, o16, o17, o18])), (t0, .inr (1, [.ref b0, .int (nI l_9)])), (b0, .inl (k0, 300, .inl g_10))] H := hP
      have hD : va_D A [(h0, .inr (0, [.ref t0, o1, o2, o3, o4, o5, o6, o7, o8, o9, o10, o11, o12, o13, o14, o15, o16, o17, o18])), (t0, .inr (1, [.ref b0, .int (nI l_9)])), (b0, .inl (k0, 300, .inl g_10))] := hD
      have hK : va_K (dC, dI) CL [(k0, .byte)] s := hK
      rw [k_subI (k := 8) ej9 hj9 (by decide)] at hw_12
      refine lv_aload_n hx hb d_TB_feed_51 rfl (lv_at hl 0 rfl) ?_
      refine lv_iload_n hx hb d_TB_feed_52 rfl (lv_at hl 1 rfl) ?_
      refine lv_bipush (v := (nI 12)) hx hb d_TB_feed_53 (by decide +kernel) ?_
      refine lv_isub hx hb d_TB_feed_55 ?_
      refine lv_iload hx hb d_TB_feed_56 (lv_at hl 5 rfl) ?_
      refine k_finv (wr := []) [0, 1, 2] [] (k_runV (n := 2) (As := [.int (p1 - (nI 12)), .int p5]) (rest := []) (wc := [(h0, .inr (0, [.ref t0, o1, o2, o3, o4, o5, o6, o7, o8, o9, o10, o11, o12, o13, o14, o15, o16, o17, o18])), (t0, .inr (1, [.ref b0, .int (nI l_9)])), (b0, .inl (k0, 300, .inl g_10))]) ⟨hx, hb, hml, hown, hts⟩ (c_TB_feedWord l dC dI h0 t0 b0 k0 l_9 g_10 (p1 - (nI 12)) p5 o1 o2 o3 o4 o5 o6 o7 o8 o9 o10 o11 o12 o13 o14 o15 o16 o17 o18 _ (by omega)) (kg_V m_160 m_161 m_162 m_163 (kg_code m_159)) (by decide +kernel) rfl rfl ⟨Nat.le_of_ble_eq_true rfl, Nat.le_of_ble_eq_true rfl⟩ [0, 1, 2] [0] hP hD hK hS hA hZ hN (by rfl) (by decide) (by rfl) rfl rfl rfl rfl hl.1 rfl (Nat.le_of_ble_eq_true rfl) d_TB_feed_58 ⟨(Nat.le_of_ble_eq_true rfl), (Nat.le_of_ble_eq_true rfl)⟩) hP hD hK hS hA (by rfl) (by rfl) (by decide) (by decide) (fun u9 H locs hw_16 hP hD hK hS => ?_)
      obtain ⟨l_13, g_14⟩ := u9
      try dsimp only at hw_16
      have hP : va_P (dC, dI) CL [(h0, .inr (0, [.ref t0, o1, o2, o3, o4, o5, o6, o7, o8, o9, o10, o11, o12, o13, o14, o15, o16, o17, o18])), (t0, .inr (1, [.ref b0, .int (nI l_13)])), (b0, .inl (k0, 300, .inl g_14))] H := hP
      have hD : va_D A [(h0, .inr (0, [.ref t0, o1, o2, o3, o4, o5, o6, o7, o8, o9, o10, o11, o12, o13, o14, o15, o16, o17, o18])), (t0, .inr (1, [.ref b0, .int (nI l_13)])), (b0, .inl (k0, 300, .inl g_14))] := hD
      have hK : va_K (dC, dI) CL [(k0, .byte)] s := hK
      rw [k_subI (k := 12) ej9 hj9 (by decide)] at hw_16
      refine lv_aload_n hx hb d_TB_feed_61 rfl (lv_at hl 0 rfl) ?_
      refine lv_iload_n hx hb d_TB_feed_62 rfl (lv_at hl 1 rfl) ?_
      refine lv_bipush (v := (nI 16)) hx hb d_TB_feed_63 (by decide +kernel) ?_
      refine lv_isub hx hb d_TB_feed_65 ?_
      refine lv_iload hx hb d_TB_feed_66 (lv_at hl 6 rfl) ?_
      refine k_finv (wr := []) [0, 1, 2] [] (k_runV (n := 2) (As := [.int (p1 - (nI 16)), .int p6]) (rest := []) (wc := [(h0, .inr (0, [.ref t0, o1, o2, o3, o4, o5, o6, o7, o8, o9, o10, o11, o12, o13, o14, o15, o16, o17, o18])), (t0, .inr (1, [.ref b0, .int (nI l_13)])), (b0, .inl (k0, 300, .inl g_14))]) ⟨hx, hb, hml, hown, hts⟩ (c_TB_feedWord l dC dI h0 t0 b0 k0 l_13 g_14 (p1 - (nI 16)) p6 o1 o2 o3 o4 o5 o6 o7 o8 o9 o10 o11 o12 o13 o14 o15 o16 o17 o18 _ (by omega)) (kg_V m_160 m_161 m_162 m_163 (kg_code m_159)) (by decide +kernel) rfl rfl ⟨Nat.le_of_ble_eq_true rfl, Nat.le_of_ble_eq_true rfl⟩ [0, 1, 2] [0] hP hD hK hS hA hZ hN (by rfl) (by decide) (by rfl) rfl rfl rfl rfl hl.1 rfl (Nat.le_of_ble_eq_true rfl) d_TB_feed_68 ⟨(Nat.le_of_ble_eq_true rfl), (Nat.le_of_ble_eq_true rfl)⟩) hP hD hK hS hA (by rfl) (by rfl) (by decide) (by decide) (fun u9 H locs hw_20 hP hD hK hS => ?_)
      obtain ⟨l_17, g_18⟩ := u9
      try dsimp only at hw_20
      have hP : va_P (dC, dI) CL [(h0, .inr (0, [.ref t0, o1, o2, o3, o4, o5, o6, o7, o8, o9, o10, o11, o12, o13, o14, o15, o16, o17, o18])), (t0, .inr (1, [.ref b0, .int (nI l_17)])), (b0, .inl (k0, 300, .inl g_18))] H := hP
      have hD : va_D A [(h0, .inr (0, [.ref t0, o1, o2, o3, o4, o5, o6, o7, o8, o9, o10, o11, o12, o13, o14, o15, o16, o17, o18])), (t0, .inr (1, [.ref b0, .int (nI l_17)])), (b0, .inl (k0, 300, .inl g_18))] := hD
      have hK : va_K (dC, dI) CL [(k0, .byte)] s := hK
      rw [k_subI (k := 16) ej9 hj9 (by decide)] at hw_20
      refine lv_aload_n hx hb d_TB_feed_71 rfl (lv_at hl 0 rfl) ?_
      refine va_get (D := (dC, dI)) (ci := 0) (v := .ref t0) (C := R_TB) (T := F_TB) (N := 19) hx hb hts i_TB hown hK hP 0 rfl rfl 0 (by decide) (hts _ m_105) (fun _ h9 => h9) rfl d_TB_feed_72 ?_
      refine va_get (D := (dC, dI)) (ci := 1) (v := .int (nI l_17)) (C := R_Row) (T := F_Row) (N := 2) hx hb hts i_Row hown hK hP 1 rfl rfl 1 (by decide) (hts _ m_158) (fun _ h9 => h9) rfl d_TB_feed_75 ?_
      have hP9 := hP.sub (ws' := []) [] rfl
      have hD9 := hD.sub (ws' := []) [] (by decide) rfl
      have hK9 := hK.sub (tys' := []) [] rfl
      rw [hQg]
      exact W.iret (v := (nI l_17)) hx hb hr (fun t ht hW => ⟨⟨(nI l_17), (), rfl, (by rw [kf_in c1 c7, ej9]; congr 1; omega), by rw [ht]; exact hP9, va_K.moved hW.alike hK9, hD9⟩, hS.F ht⟩) hS.2.2 d_TB_feed_78
