-- ThresholdBenchModel.carry
set_option maxHeartbeats 4000000 in
set_option maxRecDepth 100000 in
theorem c_Mo_carry (l : Launch) (dC : Nat → ClassId) (dI : Nat → Nat → Nat) (h0 : Nat) (pr : Nat) (kp : ClassId) (F : Nat → Nat) (w0 : Value) (w1 : Value) (w2 : Value) (w3 : Value) (w4 : Value) (w5 : Value) (w6 : Value) (w7 : Value) (w8 : Value) (w9 : Value) (w11 : Value) (w12 : Value) (w13 : Value) (w14 : Value) (w15 : Value) (w16 : Value) (w17 : Value) (w18 : Value) (w19 : Value) (w20 : Value) (w21 : Value) (w22 : Value) (w23 : Value) (w24 : Value) (w25 : Value) (w26 : Value) (w27 : Value) (w28 : Value) (w29 : Value) (w30 : Value) (w31 : Value) (w32 : Value) (w33 : Value) (sz : Nat) (hF : ∀ i, i < 40 → F i < 2 ^ 50) : Met l y_Mo_carry (.code y_Mo_carry prog_14_method_4_code 2 (none) :: AW) ({ frames := 0, cells := 0, slots := 0, locals := 0 } : Room) (va_Pc [.ref h0] (pw (dC, dI) CL [(h0, .inr (11, [w0, w1, w2, w3, w4, w5, w6, w7, w8, w9, .ref pr, w11, w12, w13, w14, w15, w16, w17, w18, w19, w20, w21, w22, w23, w24, w25, w26, w27, w28, w29, w30, w31, w32, w33])), (pr, .inl (kp, 40, .inr (.inl (fun j9 => lN (F j9)))))] [(kp, .long)] sz)) (va_Qv (fun u : (Nat → Nat) => kv u 0 40 = kv F 0 40 ∧ (∀ j, j < 39 → u j < 65536) ∧ u 39 < 2 ^ 51) (fun (u : (Nat → Nat)) t => qw (dC, dI) CL (va_A [(h0, .inr (11, [w0, w1, w2, w3, w4, w5, w6, w7, w8, w9, .ref pr, w11, w12, w13, w14, w15, w16, w17, w18, w19, w20, w21, w22, w23, w24, w25, w26, w27, w28, w29, w30, w31, w32, w33])), (pr, .inl (kp, 40, .inr (.inl (fun j9 => lN (F j9)))))] sz) ((fun u : (Nat → Nat) => [(h0, .inr (11, [w0, w1, w2, w3, w4, w5, w6, w7, w8, w9, .ref pr, w11, w12, w13, w14, w15, w16, w17, w18, w19, w20, w21, w22, w23, w24, w25, w26, w27, w28, w29, w30, w31, w32, w33])), (pr, .inl (kp, 40, .inr (.inl (fun j9 => lN (u j9)))))]) u) ((fun u : (Nat → Nat) => []) u) t) (va_A [(h0, .inr (11, [w0, w1, w2, w3, w4, w5, w6, w7, w8, w9, .ref pr, w11, w12, w13, w14, w15, w16, w17, w18, w19, w20, w21, w22, w23, w24, w25, w26, w27, w28, w29, w30, w31, w32, w33])), (pr, .inl (kp, 40, .inr (.inl (fun j9 => lN (F j9)))))] sz)) 0 0 (va_A [(h0, .inr (11, [w0, w1, w2, w3, w4, w5, w6, w7, w8, w9, .ref pr, w11, w12, w13, w14, w15, w16, w17, w18, w19, w20, w21, w22, w23, w24, w25, w26, w27, w28, w29, w30, w31, w32, w33])), (pr, .inl (kp, 40, .inr (.inl (fun j9 => lN (F j9)))))] sz) := by
  refine Met.ofW (cc := prog_14_method_4_code) (maxL := 2) (ret := none) (by decide) rfl ?_
  intro p e s m args below meth c s₁ B hml hv
  obtain ⟨rfl, hsz, hP, hK, hD0, hZ, hN⟩ := hv
  have hx := B.exec
  have hb := B.bytes
  have hr := B.returns
  have hts := kw (atoms_spec (ws := .code y_Mo_carry prog_14_method_4_code 2 (none) :: AW) B.pre)
  have hown : s.vm.findClass R_Mo = some m.cls := findClass_of_methodNamed B.named
  have hlocks := B.notSynchronized
  subst hsz
  have hD := hD0.self (sz := s.heap.size)
  obtain ⟨Qg, hQg⟩ : ∃ q, q = MQ below (va_Qv (fun u : (Nat → Nat) => kv u 0 40 = kv F 0 40 ∧ (∀ j, j < 39 → u j < 65536) ∧ u 39 < 2 ^ 51) (fun (u : (Nat → Nat)) t => qw (dC, dI) CL (va_A [(h0, .inr (11, [w0, w1, w2, w3, w4, w5, w6, w7, w8, w9, .ref pr, w11, w12, w13, w14, w15, w16, w17, w18, w19, w20, w21, w22, w23, w24, w25, w26, w27, w28, w29, w30, w31, w32, w33])), (pr, .inl (kp, 40, .inr (.inl (fun j9 => lN (F j9)))))] s.heap.size) ((fun u : (Nat → Nat) => [(h0, .inr (11, [w0, w1, w2, w3, w4, w5, w6, w7, w8, w9, .ref pr, w11, w12, w13, w14, w15, w16, w17, w18, w19, w20, w21, w22, w23, w24, w25, w26, w27, w28, w29, w30, w31, w32, w33])), (pr, .inl (kp, 40, .inr (.inl (fun j9 => lN (u j9)))))]) u) ((fun u : (Nat → Nat) => []) u) t) (va_A [(h0, .inr (11, [w0, w1, w2, w3, w4, w5, w6, w7, w8, w9, .ref pr, w11, w12, w13, w14, w15, w16, w17, w18, w19, w20, w21, w22, w23, w24, w25, w26, w27, w28, w29, w30, w31, w32, w33])), (pr, .inl (kp, 40, .inr (.inl (fun j9 => lN (F j9)))))] s.heap.size)) ([.ref h0] : List Value).toArray s 0 0 (va_A [(h0, .inr (11, [w0, w1, w2, w3, w4, w5, w6, w7, w8, w9, .ref pr, w11, w12, w13, w14, w15, w16, w17, w18, w19, w20, w21, w22, w23, w24, w25, w26, w27, w28, w29, w30, w31, w32, w33])), (pr, .inl (kp, 40, .inr (.inl (fun j9 => lN (F j9)))))] s.heap.size) := ⟨_, rfl⟩
  rw [← hQg]
  generalize hAe : va_A [(h0, .inr (11, [w0, w1, w2, w3, w4, w5, w6, w7, w8, w9, .ref pr, w11, w12, w13, w14, w15, w16, w17, w18, w19, w20, w21, w22, w23, w24, w25, w26, w27, w28, w29, w30, w31, w32, w33])), (pr, .inl (kp, 40, .inr (.inl (fun j9 => lN (F j9)))))] s.heap.size = A at hD hZ hQg
  have hA : ∀ q : Nat, s.heap.size ≤ q → A q := fun q h => by rw [← hAe]; exact Or.inr h
  have hS : va_S A s.heap s.heap [] := va_S.rf
  have hP : va_P (dC, dI) CL [(h0, .inr (11, [w0, w1, w2, w3, w4, w5, w6, w7, w8, w9, .ref pr, w11, w12, w13, w14, w15, w16, w17, w18, w19, w20, w21, w22, w23, w24, w25, w26, w27, w28, w29, w30, w31, w32, w33])), (pr, .inl (kp, 40, .inr (.inl (fun j9 => lN (F j9)))))] s.heap := hP
  have hl := lv_entry ([.ref h0]) (n := 2) (Nat.le_of_ble_eq_true rfl)
  rw [lg_entry_eq]
  generalize (lg_sl ([.ref h0]) ++ List.replicate (2 - (lg_sl ([.ref h0])).length) Slot.unset).toArray = ls at hl ⊢
  have hl : lv_has ls 2 [(0, .ref h0)] := hl
  show W p l e ({ frames := 0, cells := 0, slots := 0, locals := 0 } : Room) s m ([.ref h0] : List Value).toArray below meth c s.heap [] 0 0 Qg (F0 m 0 ls [])
  refine lv_iconst (v := (nI 0)) hx hb d_Mo_carry_0 (by decide +kernel) ?_
  refine lv_istore_n (lv' := [(1, .int (nI 0)), (0, .ref h0)]) hx hb d_Mo_carry_1 rfl hl (by decide) rfl (fun ls hl => ?_)
  have lb_2 : ∀ (n9 : Nat) (i9 : Nat) (F9 : Nat → Nat) (H : Heap) (locs : List Loc) (ls : Array Slot), (i9 ≤ 39) → (kc F F9 i9) → (39 - i9 < n9) → va_P (dC, dI) CL [(h0, .inr (11, [w0, w1, w2, w3, w4, w5, w6, w7, w8, w9, .ref pr, w11, w12, w13, w14, w15, w16, w17, w18, w19, w20, w21, w22, w23, w24, w25, w26, w27, w28, w29, w30, w31, w32, w33])), (pr, .inl (kp, 40, .inr (.inl (fun j9 => lN (F9 j9)))))] H → va_D A [(h0, .inr (11, [w0, w1, w2, w3, w4, w5, w6, w7, w8, w9, .ref pr, w11, w12, w13, w14, w15, w16, w17, w18, w19, w20, w21, w22, w23, w24, w25, w26, w27, w28, w29, w30, w31, w32, w33])), (pr, .inl (kp, 40, .inr (.inl (fun j9 => lN (F9 j9)))))] → va_S A s.heap H locs → lv_has ls 2 [(0, .ref h0), (1, .int (nI i9))] → W p l e ({ frames := 0, cells := 0, slots := 0, locals := 0 } : Room) s m ([.ref h0] : List Value).toArray below meth c H locs 0 0 Qg (F0 m 2 ls []) := by
    intro n9
    induction n9 with
    | zero => intro i9 F9 H locs ls hi9 hk9 hm9; exact absurd hm9 (Nat.not_lt_zero _)
    | succ n9 ih2 =>
      intro i9 F9 H locs ls hi9 hk9 hm2 hP hD hS hl
      refine lv_iload_n hx hb d_Mo_carry_2 rfl (lv_at hl 1 rfl) ?_
      refine lv_bipush (v := (nI 39)) hx hb d_Mo_carry_3 (by decide +kernel) ?_
      refine lv_icmp_ge (tgt := 46) hx hb d_Mo_carry_5 (by decide) (fun c5 => ?_) (fun c5 => ?_)
      · have c5 : 39 ≤ i9 := (nI_leI (by omega) (by omega)).mp c5
        have hP9 := hP.sub (ws' := [(h0, .inr (11, [w0, w1, w2, w3, w4, w5, w6, w7, w8, w9, .ref pr, w11, w12, w13, w14, w15, w16, w17, w18, w19, w20, w21, w22, w23, w24, w25, w26, w27, w28, w29, w30, w31, w32, w33])), (pr, .inl (kp, 40, .inr (.inl (fun j9 => lN (F9 j9)))))]) [0, 1] rfl
        have hD9 := hD.sub (ws' := [(h0, .inr (11, [w0, w1, w2, w3, w4, w5, w6, w7, w8, w9, .ref pr, w11, w12, w13, w14, w15, w16, w17, w18, w19, w20, w21, w22, w23, w24, w25, w26, w27, w28, w29, w30, w31, w32, w33])), (pr, .inl (kp, 40, .inr (.inl (fun j9 => lN (F9 j9)))))]) [0, 1] (by decide) rfl
        have hK9 := hK.sub (tys' := []) [] rfl
        rw [hQg]
        exact W.vret hx hb hr (fun t ht hW => ⟨⟨(F9), rfl, (kc_end hk9 (by omega)), by rw [ht]; exact hP9, va_K.moved hW.alike hK9, hD9⟩, hS.F ht⟩) hS.2.2 d_Mo_carry_46
      · have c5 : ¬ (39 ≤ i9) := fun h => c5 ((nI_leI (by omega) (by omega)).mpr h)
        refine lv_aload_n hx hb d_Mo_carry_8 rfl (lv_at hl 0 rfl) ?_
        refine va_get (D := (dC, dI)) (ci := 11) (v := .ref pr) (C := R_Mo) (T := F_Mo) (N := 34) hx hb hts i_Mo hown hK hP 0 rfl rfl 10 (by decide) (hts _ m_318) (fun _ h9 => h9) rfl d_Mo_carry_9 ?_
        refine lv_iload_n hx hb d_Mo_carry_12 rfl (lv_at hl 1 rfl) ?_
        refine lv_iconst (v := (nI 1)) hx hb d_Mo_carry_13 (by decide +kernel) ?_
        refine lv_iadd hx hb d_Mo_carry_14 ?_
        refine ki (v := nI (i9 + 1)) (k_add i9 1 rfl) ?_
        refine lv_dup2_11 hx hb d_Mo_carry_15 rfl rfl ?_
        refine kv_lald hx hb hK hP 1 0 rfl rfl (by omega) (by omega) d_Mo_carry_16 ?_
        refine kl (v := lN (F9 (i9 + 1))) rfl ?_
        refine lv_aload_n hx hb d_Mo_carry_17 rfl (lv_at hl 0 rfl) ?_
        refine va_get (D := (dC, dI)) (ci := 11) (v := .ref pr) (C := R_Mo) (T := F_Mo) (N := 34) hx hb hts i_Mo hown hK hP 0 rfl rfl 10 (by decide) (hts _ m_318) (fun _ h9 => h9) rfl d_Mo_carry_18 ?_
        refine lv_iload_n hx hb d_Mo_carry_21 rfl (lv_at hl 1 rfl) ?_
        refine kv_lald hx hb hK hP 1 0 rfl rfl (by omega) (by omega) d_Mo_carry_22 ?_
        refine kl (v := lN (F9 i9)) rfl ?_
        refine lv_bipush (v := (nI 16)) hx hb d_Mo_carry_23 (by decide +kernel) ?_
        refine lv_lshr hx hb d_Mo_carry_25 rfl ?_
        refine kl (v := lN ((F9 i9) / 65536)) (k_lshr16 (by have := hk9.2.2.1; omega)) ?_
        refine lv_ladd hx hb d_Mo_carry_26 ?_
        refine kl (v := lN (F9 (i9 + 1) + ((F9 i9) / 65536))) (k_ladd (F9 (i9 + 1)) ((F9 i9) / 65536) rfl) ?_
        refine kv_lastN hx hb hK hP hD hS 1 0 rfl rfl (by omega) (by omega) d_Mo_carry_27 (fun H locs hP hD hS => ?_)
        have hP : va_P (dC, dI) CL [(h0, .inr (11, [w0, w1, w2, w3, w4, w5, w6, w7, w8, w9, .ref pr, w11, w12, w13, w14, w15, w16, w17, w18, w19, w20, w21, w22, w23, w24, w25, w26, w27, w28, w29, w30, w31, w32, w33])), (pr, .inl (kp, 40, .inr (.inl (fun j9 => lN ((upN F9 (i9 + 1) (F9 (i9 + 1) + ((F9 i9) / 65536))) j9)))))] H := hP
        have hD : va_D A [(h0, .inr (11, [w0, w1, w2, w3, w4, w5, w6, w7, w8, w9, .ref pr, w11, w12, w13, w14, w15, w16, w17, w18, w19, w20, w21, w22, w23, w24, w25, w26, w27, w28, w29, w30, w31, w32, w33])), (pr, .inl (kp, 40, .inr (.inl (fun j9 => lN ((upN F9 (i9 + 1) (F9 (i9 + 1) + ((F9 i9) / 65536))) j9)))))] := hD
        obtain ⟨G1, eG1⟩ : ∃ z, z = upN F9 (i9 + 1) (F9 (i9 + 1) + ((F9 i9) / 65536)) := ⟨_, rfl⟩
        rw [← eG1] at hP hD
        refine lv_aload_n hx hb d_Mo_carry_28 rfl (lv_at hl 0 rfl) ?_
        refine va_get (D := (dC, dI)) (ci := 11) (v := .ref pr) (C := R_Mo) (T := F_Mo) (N := 34) hx hb hts i_Mo hown hK hP 0 rfl rfl 10 (by decide) (hts _ m_318) (fun _ h9 => h9) rfl d_Mo_carry_29 ?_
        refine lv_iload_n hx hb d_Mo_carry_32 rfl (lv_at hl 1 rfl) ?_
        refine lv_dup2_11 hx hb d_Mo_carry_33 rfl rfl ?_
        refine kv_lald hx hb hK hP 1 0 rfl rfl (by omega) (by omega) d_Mo_carry_34 ?_
        refine kl (v := lN (G1 i9)) rfl ?_
        refine lv_ldc2 (v := lN 65535) hx hb hown (hts _ m_319) d_Mo_carry_35 ?_
        refine lv_land hx hb d_Mo_carry_38 ?_
        refine kl (v := lN ((G1 i9) % 65536)) (k_land16 (by rw [eG1, upN_n (by omega)]; have := hk9.2.2.1; omega)) ?_
        refine kv_lastN hx hb hK hP hD hS 1 0 rfl rfl (by omega) (by omega) d_Mo_carry_39 (fun H locs hP hD hS => ?_)
        have hP : va_P (dC, dI) CL [(h0, .inr (11, [w0, w1, w2, w3, w4, w5, w6, w7, w8, w9, .ref pr, w11, w12, w13, w14, w15, w16, w17, w18, w19, w20, w21, w22, w23, w24, w25, w26, w27, w28, w29, w30, w31, w32, w33])), (pr, .inl (kp, 40, .inr (.inl (fun j9 => lN ((upN G1 i9 ((G1 i9) % 65536)) j9)))))] H := hP
        have hD : va_D A [(h0, .inr (11, [w0, w1, w2, w3, w4, w5, w6, w7, w8, w9, .ref pr, w11, w12, w13, w14, w15, w16, w17, w18, w19, w20, w21, w22, w23, w24, w25, w26, w27, w28, w29, w30, w31, w32, w33])), (pr, .inl (kp, 40, .inr (.inl (fun j9 => lN ((upN G1 i9 ((G1 i9) % 65536)) j9)))))] := hD
        obtain ⟨G2, eG2⟩ : ∃ z, z = upN G1 i9 ((G1 i9) % 65536) := ⟨_, rfl⟩
        rw [← eG2] at hP hD
        refine lv_iinc (v := (nI (i9 + 1))) (lv' := [(1, .int (nI (i9 + 1))), (0, .ref h0)]) hx hb d_Mo_carry_40 hl (k := 1) rfl (k_inc _) (by decide) rfl (fun ls hl => ?_)
        refine lv_goto (tgt := 2) hx hb d_Mo_carry_43 (by decide) ?_
        exact ih2  (i9 + 1) G2 _ _ _ (by omega) (by subst eG2; subst eG1; exact kc_step hF hk9 (by omega)) (by omega) (hP.sub [0, 1] rfl) (hD.sub [0, 1] (by decide) rfl) hS (lv_sub hl [1, 0] rfl)
  exact lb_2 (39 - 0 + 1) 0 F _ _ _ (Nat.zero_le _) (kc_0 hF) (Nat.lt_succ_self _) (hP.sub [0, 1] rfl) (hD.sub [0, 1] (by decide) rfl) hS (lv_sub hl [1, 0] rfl)

-- ThresholdBenchModel.isAbove
set_option maxHeartbeats 4000000 in
set_option maxRecDepth 100000 in
theorem c_Mo_isAbove (l : Launch) (dC : Nat → ClassId) (dI : Nat → Nat → Nat) (h0 : Nat) (pr : Nat) (kp : ClassId) (F : Nat → Nat) (vv : Nat) (kq : ClassId) (Vf : Nat → Nat) (fd : Nat) (mm : Nat) (w0 : Value) (w1 : Value) (w2 : Value) (w3 : Value) (w4 : Value) (w5 : Value) (w6 : Value) (w7 : Value) (w8 : Value) (w12 : Value) (w13 : Value) (w14 : Value) (w15 : Value) (w16 : Value) (w17 : Value) (w18 : Value) (w19 : Value) (w20 : Value) (w21 : Value) (w22 : Value) (w23 : Value) (w24 : Value) (w25 : Value) (w26 : Value) (w27 : Value) (w28 : Value) (w29 : Value) (w30 : Value) (w31 : Value) (w32 : Value) (w33 : Value) (sz : Nat) (hm : mm < 2) (hF : ∀ i, i < 16 → F i < 65536) (hV : ∀ i, i < 32 → Vf i < 65536) : Met l y_Mo_isAbove (.code y_Mo_isAbove prog_14_method_6_code 3 (some .boolean) :: AW) ({ frames := 0, cells := 0, slots := 0, locals := 0 } : Room) (va_Pc [.ref h0, .int (nI mm)] (pw (dC, dI) CL [(h0, .inr (11, [w0, w1, w2, w3, w4, w5, w6, w7, w8, .ref vv, .ref pr, .ref fd, w12, w13, w14, w15, w16, w17, w18, w19, w20, w21, w22, w23, w24, w25, w26, w27, w28, w29, w30, w31, w32, w33])), (pr, .inl (kp, 40, .inr (.inl (fun j9 => lN (F j9))))), (vv, .inl (kq, 11392, .inr (.inl (fun j9 => lN (Vf j9)))))] [(kp, .long), (kq, .long)] sz)) (va_Qi (fun (r : Int32) (u : Unit) => r = nI 0 ∨ (r = nI 1 ∧ kv Vf (16 * mm) 16 ≤ kv F 0 16)) (fun (u : Unit) t => qw (dC, dI) CL (va_A [(h0, .inr (11, [w0, w1, w2, w3, w4, w5, w6, w7, w8, .ref vv, .ref pr, .ref fd, w12, w13, w14, w15, w16, w17, w18, w19, w20, w21, w22, w23, w24, w25, w26, w27, w28, w29, w30, w31, w32, w33])), (pr, .inl (kp, 40, .inr (.inl (fun j9 => lN (F j9))))), (vv, .inl (kq, 11392, .inr (.inl (fun j9 => lN (Vf j9)))))] sz) ((fun _ : Unit => [(h0, .inr (11, [w0, w1, w2, w3, w4, w5, w6, w7, w8, .ref vv, .ref pr, .ref fd, w12, w13, w14, w15, w16, w17, w18, w19, w20, w21, w22, w23, w24, w25, w26, w27, w28, w29, w30, w31, w32, w33])), (pr, .inl (kp, 40, .inr (.inl (fun j9 => lN (F j9))))), (vv, .inl (kq, 11392, .inr (.inl (fun j9 => lN (Vf j9)))))]) u) ((fun _ : Unit => []) u) t) (va_A [(h0, .inr (11, [w0, w1, w2, w3, w4, w5, w6, w7, w8, .ref vv, .ref pr, .ref fd, w12, w13, w14, w15, w16, w17, w18, w19, w20, w21, w22, w23, w24, w25, w26, w27, w28, w29, w30, w31, w32, w33])), (pr, .inl (kp, 40, .inr (.inl (fun j9 => lN (F j9))))), (vv, .inl (kq, 11392, .inr (.inl (fun j9 => lN (Vf j9)))))] sz)) 0 0 (va_A [(h0, .inr (11, [w0, w1, w2, w3, w4, w5, w6, w7, w8, .ref vv, .ref pr, .ref fd, w12, w13, w14, w15, w16, w17, w18, w19, w20, w21, w22, w23, w24, w25, w26, w27, w28, w29, w30, w31, w32, w33])), (pr, .inl (kp, 40, .inr (.inl (fun j9 => lN (F j9))))), (vv, .inl (kq, 11392, .inr (.inl (fun j9 => lN (Vf j9)))))] sz) := by
  refine Met.ofW (cc := prog_14_method_6_code) (maxL := 3) (ret := (some .boolean)) (by decide) rfl ?_
  intro p e s m args below meth c s₁ B hml hv
  obtain ⟨rfl, hsz, hP, hK, hD0, hZ, hN⟩ := hv
  have hx := B.exec
  have hb := B.bytes
  have hr := B.returns
  have hts := kw (atoms_spec (ws := .code y_Mo_isAbove prog_14_method_6_code 3 (some .boolean) :: AW) B.pre)
  have hown : s.vm.findClass R_Mo = some m.cls := findClass_of_methodNamed B.named
  have hlocks := B.notSynchronized
  subst hsz
  have hD := hD0.self (sz := s.heap.size)
  obtain ⟨Qg, hQg⟩ : ∃ q, q = MQ below (va_Qi (fun (r : Int32) (u : Unit) => r = nI 0 ∨ (r = nI 1 ∧ kv Vf (16 * mm) 16 ≤ kv F 0 16)) (fun (u : Unit) t => qw (dC, dI) CL (va_A [(h0, .inr (11, [w0, w1, w2, w3, w4, w5, w6, w7, w8, .ref vv, .ref pr, .ref fd, w12, w13, w14, w15, w16, w17, w18, w19, w20, w21, w22, w23, w24, w25, w26, w27, w28, w29, w30, w31, w32, w33])), (pr, .inl (kp, 40, .inr (.inl (fun j9 => lN (F j9))))), (vv, .inl (kq, 11392, .inr (.inl (fun j9 => lN (Vf j9)))))] s.heap.size) ((fun _ : Unit => [(h0, .inr (11, [w0, w1, w2, w3, w4, w5, w6, w7, w8, .ref vv, .ref pr, .ref fd, w12, w13, w14, w15, w16, w17, w18, w19, w20, w21, w22, w23, w24, w25, w26, w27, w28, w29, w30, w31, w32, w33])), (pr, .inl (kp, 40, .inr (.inl (fun j9 => lN (F j9))))), (vv, .inl (kq, 11392, .inr (.inl (fun j9 => lN (Vf j9)))))]) u) ((fun _ : Unit => []) u) t) (va_A [(h0, .inr (11, [w0, w1, w2, w3, w4, w5, w6, w7, w8, .ref vv, .ref pr, .ref fd, w12, w13, w14, w15, w16, w17, w18, w19, w20, w21, w22, w23, w24, w25, w26, w27, w28, w29, w30, w31, w32, w33])), (pr, .inl (kp, 40, .inr (.inl (fun j9 => lN (F j9))))), (vv, .inl (kq, 11392, .inr (.inl (fun j9 => lN (Vf j9)))))] s.heap.size)) ([.ref h0, .int (nI mm)] : List Value).toArray s 0 0 (va_A [(h0, .inr (11, [w0, w1, w2, w3, w4, w5, w6, w7, w8, .ref vv, .ref pr, .ref fd, w12, w13, w14, w15, w16, w17, w18, w19, w20, w21, w22, w23, w24, w25, w26, w27, w28, w29, w30, w31, w32, w33])), (pr, .inl (kp, 40, .inr (.inl (fun j9 => lN (F j9))))), (vv, .inl (kq, 11392, .inr (.inl (fun j9 => lN (Vf j9)))))] s.heap.size) := ⟨_, rfl⟩
  rw [← hQg]
  generalize hAe : va_A [(h0, .inr (11, [w0, w1, w2, w3, w4, w5, w6, w7, w8, .ref vv, .ref pr, .ref fd, w12, w13, w14, w15, w16, w17, w18, w19, w20, w21, w22, w23, w24, w25, w26, w27, w28, w29, w30, w31, w32, w33])), (pr, .inl (kp, 40, .inr (.inl (fun j9 => lN (F j9))))), (vv, .inl (kq, 11392, .inr (.inl (fun j9 => lN (Vf j9)))))] s.heap.size = A at hD hZ hQg
  have hA : ∀ q : Nat, s.heap.size ≤ q → A q := fun q h => by rw [← hAe]; exact Or.inr h
  have hS : va_S A s.heap s.heap [] := va_S.rf
  have hP : va_P (dC, dI) CL [(h0, .inr (11, [w0, w1, w2, w3, w4, w5, w6, w7, w8, .ref vv, .ref pr, .ref fd, w12, w13, w14, w15, w16, w17, w18, w19, w20, w21, w22, w23, w24, w25, w26, w27, w28, w29, w30, w31, w32, w33])), (pr, .inl (kp, 40, .inr (.inl (fun j9 => lN (F j9))))), (vv, .inl (kq, 11392, .inr (.inl (fun j9 => lN (Vf j9)))))] s.heap := hP
  have hl := lv_entry ([.ref h0, .int (nI mm)]) (n := 3) (Nat.le_of_ble_eq_true rfl)
  rw [lg_entry_eq]
  generalize (lg_sl ([.ref h0, .int (nI mm)]) ++ List.replicate (3 - (lg_sl ([.ref h0, .int (nI mm)])).length) Slot.unset).toArray = ls at hl ⊢
  have hl : lv_has ls 3 [(0, .ref h0), (1, .int (nI mm))] := hl
  show W p l e ({ frames := 0, cells := 0, slots := 0, locals := 0 } : Room) s m ([.ref h0, .int (nI mm)] : List Value).toArray below meth c s.heap [] 0 0 Qg (F0 m 0 ls [])
  refine lv_bipush (v := (nI 15)) hx hb d_Mo_isAbove_0 (by decide +kernel) ?_
  refine lv_istore_n (lv' := [(2, .int (nI 15)), (0, .ref h0), (1, .int (nI mm))]) hx hb d_Mo_isAbove_2 rfl hl (by decide) rfl (fun ls hl => ?_)
  have lb_3 : ∀ (n9 : Nat) (x9 : Int32) (d9 : Nat) (H : Heap) (locs : List Loc) (ls : Array Slot), (x9 = nI d9 - 1) → (d9 ≤ 16) → (∀ j, d9 ≤ j → j < 16 → F j = Vf (16 * mm + j)) → (d9 < n9) → va_P (dC, dI) CL [(h0, .inr (11, [w0, w1, w2, w3, w4, w5, w6, w7, w8, .ref vv, .ref pr, .ref fd, w12, w13, w14, w15, w16, w17, w18, w19, w20, w21, w22, w23, w24, w25, w26, w27, w28, w29, w30, w31, w32, w33])), (pr, .inl (kp, 40, .inr (.inl (fun j9 => lN (F j9))))), (vv, .inl (kq, 11392, .inr (.inl (fun j9 => lN (Vf j9)))))] H → va_D A [(h0, .inr (11, [w0, w1, w2, w3, w4, w5, w6, w7, w8, .ref vv, .ref pr, .ref fd, w12, w13, w14, w15, w16, w17, w18, w19, w20, w21, w22, w23, w24, w25, w26, w27, w28, w29, w30, w31, w32, w33])), (pr, .inl (kp, 40, .inr (.inl (fun j9 => lN (F j9))))), (vv, .inl (kq, 11392, .inr (.inl (fun j9 => lN (Vf j9)))))] → va_S A s.heap H locs → lv_has ls 3 [(0, .ref h0), (1, .int (nI mm)), (2, .int x9)] → W p l e ({ frames := 0, cells := 0, slots := 0, locals := 0 } : Room) s m ([.ref h0, .int (nI mm)] : List Value).toArray below meth c H locs 0 0 Qg (F0 m 3 ls []) := by
    intro n9
    induction n9 with
    | zero => intro x9 d9 H locs ls ex9 hd9 hj9 hm9; exact absurd hm9 (Nat.not_lt_zero _)
    | succ n9 ih3 =>
      intro x9 d9 H locs ls ex9 hd9 hj9 hm3 hP hD hS hl
      refine lv_iload_n hx hb d_Mo_isAbove_3 rfl (lv_at hl 2 rfl) ?_
      refine lv_if_lt (tgt := 61) hx hb d_Mo_isAbove_4 (by decide) (fun c4 => ?_) (fun c4 => ?_)
      · refine lv_iconst (v := (nI 1)) hx hb d_Mo_isAbove_61 (by decide +kernel) ?_
        have hP9 := hP.sub (ws' := [(h0, .inr (11, [w0, w1, w2, w3, w4, w5, w6, w7, w8, .ref vv, .ref pr, .ref fd, w12, w13, w14, w15, w16, w17, w18, w19, w20, w21, w22, w23, w24, w25, w26, w27, w28, w29, w30, w31, w32, w33])), (pr, .inl (kp, 40, .inr (.inl (fun j9 => lN (F j9))))), (vv, .inl (kq, 11392, .inr (.inl (fun j9 => lN (Vf j9)))))]) [0, 1, 2] rfl
        have hD9 := hD.sub (ws' := [(h0, .inr (11, [w0, w1, w2, w3, w4, w5, w6, w7, w8, .ref vv, .ref pr, .ref fd, w12, w13, w14, w15, w16, w17, w18, w19, w20, w21, w22, w23, w24, w25, w26, w27, w28, w29, w30, w31, w32, w33])), (pr, .inl (kp, 40, .inr (.inl (fun j9 => lN (F j9))))), (vv, .inl (kq, 11392, .inr (.inl (fun j9 => lN (Vf j9)))))]) [0, 1, 2] (by decide) rfl
        have hK9 := hK.sub (tys' := []) [] rfl
        have hz9 := k_neg hd9 (by rw [← ex9]; exact c4)
        rw [hQg]
        exact W.zret (v := (nI 1)) hx hb hr rfl (fun t ht hW => ⟨⟨(nI 1), (), rfl, (Or.inr ⟨rfl, Nat.le_of_eq (kv_ext 16 (fun j hj => by rw [Nat.zero_add]; exact (hj9 j (by omega) hj).symm))⟩), by rw [ht]; exact hP9, va_K.moved hW.alike hK9, hD9⟩, hS.F ht⟩) hS.2.2 d_Mo_isAbove_62
      · have hp9 := k_pos hd9 (by rw [← ex9]; exact c4)
        obtain rfl : x9 = nI (d9 - 1) := by rw [ex9]; exact k_pd hp9
        refine lv_aload_n hx hb d_Mo_isAbove_7 rfl (lv_at hl 0 rfl) ?_
        refine va_get (D := (dC, dI)) (ci := 11) (v := .ref pr) (C := R_Mo) (T := F_Mo) (N := 34) hx hb hts i_Mo hown hK hP 0 rfl rfl 10 (by decide) (hts _ m_318) (fun _ h9 => h9) rfl d_Mo_isAbove_8 ?_
        refine lv_iload_n hx hb d_Mo_isAbove_11 rfl (lv_at hl 2 rfl) ?_
        refine kv_lald hx hb hK hP 1 0 rfl rfl (by omega) (by omega) d_Mo_isAbove_12 ?_
        refine kl (v := lN (F (d9 - 1))) rfl ?_
        refine lv_aload_n hx hb d_Mo_isAbove_13 rfl (lv_at hl 0 rfl) ?_
        refine va_get (D := (dC, dI)) (ci := 11) (v := .ref vv) (C := R_Mo) (T := F_Mo) (N := 34) hx hb hts i_Mo hown hK hP 0 rfl rfl 9 (by decide) (hts _ m_320) (fun _ h9 => h9) rfl d_Mo_isAbove_14 ?_
        refine lv_bipush (v := (nI 16)) hx hb d_Mo_isAbove_17 (by decide +kernel) ?_
        refine lv_iload_n hx hb d_Mo_isAbove_19 rfl (lv_at hl 1 rfl) ?_
        refine lv_imul hx hb d_Mo_isAbove_20 ?_
        refine ki (v := nI (16 * mm)) (k_mul 16 mm rfl) ?_
        refine lv_iload_n hx hb d_Mo_isAbove_21 rfl (lv_at hl 2 rfl) ?_
        refine lv_iadd hx hb d_Mo_isAbove_22 ?_
        refine ki (v := nI (16 * mm + (d9 - 1))) (k_add (16 * mm) (d9 - 1) rfl) ?_
        refine kv_lald hx hb hK hP 2 1 rfl rfl (by omega) (by omega) d_Mo_isAbove_23 ?_
        refine kl (v := lN (Vf (16 * mm + (d9 - 1)))) rfl ?_
        refine W.lcmp hx hb d_Mo_isAbove_24 ?_
        refine lv_if_eq (tgt := 55) hx hb d_Mo_isAbove_25 (by decide) (fun c25 => ?_) (fun c25 => ?_)
        · have c25 : (F (d9 - 1)) = (Vf (16 * mm + (d9 - 1))) := (k_lceq (by first | (have := hF (d9 - 1) (by omega); omega) | (have := hV (16 * mm + (d9 - 1)) (by omega); omega)) (by first | (have := hF (d9 - 1) (by omega); omega) | (have := hV (16 * mm + (d9 - 1)) (by omega); omega))).mp c25
          refine lv_iinc (v := ((nI (d9 - 1)) + Int32.ofInt (-1))) (lv' := [(2, .int ((nI (d9 - 1)) + Int32.ofInt (-1))), (0, .ref h0), (1, .int (nI mm))]) hx hb d_Mo_isAbove_55 hl (k := 2) rfl rfl (by decide) rfl (fun ls hl => ?_)
          refine lv_goto (tgt := 3) hx hb d_Mo_isAbove_58 (by decide) ?_
          exact ih3  ((nI (d9 - 1)) + Int32.ofInt (-1)) (d9 - 1) _ _ _ (k_m1 _) (by omega) (fun j h1 h2 => if h3 : d9 ≤ j then hj9 j h3 h2 else by obtain rfl : j = d9 - 1 := (by omega); exact c25) (by omega) (hP.sub [0, 1, 2] rfl) (hD.sub [0, 1, 2] (by decide) rfl) hS (lv_sub hl [1, 2, 0] rfl)
        · have c25 : ¬ ((F (d9 - 1)) = (Vf (16 * mm + (d9 - 1)))) := fun h => c25 ((k_lceq (by first | (have := hF (d9 - 1) (by omega); omega) | (have := hV (16 * mm + (d9 - 1)) (by omega); omega)) (by first | (have := hF (d9 - 1) (by omega); omega) | (have := hV (16 * mm + (d9 - 1)) (by omega); omega))).mpr h)
          refine lv_aload_n hx hb d_Mo_isAbove_28 rfl (lv_at hl 0 rfl) ?_
          refine va_get (D := (dC, dI)) (ci := 11) (v := .ref pr) (C := R_Mo) (T := F_Mo) (N := 34) hx hb hts i_Mo hown hK hP 0 rfl rfl 10 (by decide) (hts _ m_318) (fun _ h9 => h9) rfl d_Mo_isAbove_29 ?_
          refine lv_iload_n hx hb d_Mo_isAbove_32 rfl (lv_at hl 2 rfl) ?_
          refine kv_lald hx hb hK hP 1 0 rfl rfl (by omega) (by omega) d_Mo_isAbove_33 ?_
          refine kl (v := lN (F (d9 - 1))) rfl ?_
          refine lv_aload_n hx hb d_Mo_isAbove_34 rfl (lv_at hl 0 rfl) ?_
          refine va_get (D := (dC, dI)) (ci := 11) (v := .ref vv) (C := R_Mo) (T := F_Mo) (N := 34) hx hb hts i_Mo hown hK hP 0 rfl rfl 9 (by decide) (hts _ m_320) (fun _ h9 => h9) rfl d_Mo_isAbove_35 ?_
          refine lv_bipush (v := (nI 16)) hx hb d_Mo_isAbove_38 (by decide +kernel) ?_
          refine lv_iload_n hx hb d_Mo_isAbove_40 rfl (lv_at hl 1 rfl) ?_
          refine lv_imul hx hb d_Mo_isAbove_41 ?_
          refine ki (v := nI (16 * mm)) (k_mul 16 mm rfl) ?_
          refine lv_iload_n hx hb d_Mo_isAbove_42 rfl (lv_at hl 2 rfl) ?_
          refine lv_iadd hx hb d_Mo_isAbove_43 ?_
          refine ki (v := nI (16 * mm + (d9 - 1))) (k_add (16 * mm) (d9 - 1) rfl) ?_
          refine kv_lald hx hb hK hP 2 1 rfl rfl (by omega) (by omega) d_Mo_isAbove_44 ?_
          refine kl (v := lN (Vf (16 * mm + (d9 - 1)))) rfl ?_
          refine W.lcmp hx hb d_Mo_isAbove_45 ?_
          refine lv_if_le (tgt := 53) hx hb d_Mo_isAbove_46 (by decide) (fun c46 => ?_) (fun c46 => ?_)
          · have c46 : (F (d9 - 1)) ≤ (Vf (16 * mm + (d9 - 1))) := (k_lcle (by first | (have := hF (d9 - 1) (by omega); omega) | (have := hV (16 * mm + (d9 - 1)) (by omega); omega)) (by first | (have := hF (d9 - 1) (by omega); omega) | (have := hV (16 * mm + (d9 - 1)) (by omega); omega))).mp c46
            refine lv_iconst (v := (nI 0)) hx hb d_Mo_isAbove_53 (by decide +kernel) ?_
            have hP9 := hP.sub (ws' := [(h0, .inr (11, [w0, w1, w2, w3, w4, w5, w6, w7, w8, .ref vv, .ref pr, .ref fd, w12, w13, w14, w15, w16, w17, w18, w19, w20, w21, w22, w23, w24, w25, w26, w27, w28, w29, w30, w31, w32, w33])), (pr, .inl (kp, 40, .inr (.inl (fun j9 => lN (F j9))))), (vv, .inl (kq, 11392, .inr (.inl (fun j9 => lN (Vf j9)))))]) [0, 1, 2] rfl
            have hD9 := hD.sub (ws' := [(h0, .inr (11, [w0, w1, w2, w3, w4, w5, w6, w7, w8, .ref vv, .ref pr, .ref fd, w12, w13, w14, w15, w16, w17, w18, w19, w20, w21, w22, w23, w24, w25, w26, w27, w28, w29, w30, w31, w32, w33])), (pr, .inl (kp, 40, .inr (.inl (fun j9 => lN (F j9))))), (vv, .inl (kq, 11392, .inr (.inl (fun j9 => lN (Vf j9)))))]) [0, 1, 2] (by decide) rfl
            have hK9 := hK.sub (tys' := []) [] rfl
            rw [hQg]
            exact W.zret (v := (nI 0)) hx hb hr rfl (fun t ht hW => ⟨⟨(nI 0), (), rfl, (Or.inl rfl), by rw [ht]; exact hP9, va_K.moved hW.alike hK9, hD9⟩, hS.F ht⟩) hS.2.2 d_Mo_isAbove_54
          · have c46 : ¬ ((F (d9 - 1)) ≤ (Vf (16 * mm + (d9 - 1)))) := fun h => c46 ((k_lcle (by first | (have := hF (d9 - 1) (by omega); omega) | (have := hV (16 * mm + (d9 - 1)) (by omega); omega)) (by first | (have := hF (d9 - 1) (by omega); omega) | (have := hV (16 * mm + (d9 - 1)) (by omega); omega))).mpr h)
            refine lv_iconst (v := (nI 1)) hx hb d_Mo_isAbove_49 (by decide +kernel) ?_
            refine lv_goto (tgt := 54) hx hb d_Mo_isAbove_50 (by decide) ?_
            have hP9 := hP.sub (ws' := [(h0, .inr (11, [w0, w1, w2, w3, w4, w5, w6, w7, w8, .ref vv, .ref pr, .ref fd, w12, w13, w14, w15, w16, w17, w18, w19, w20, w21, w22, w23, w24, w25, w26, w27, w28, w29, w30, w31, w32, w33])), (pr, .inl (kp, 40, .inr (.inl (fun j9 => lN (F j9))))), (vv, .inl (kq, 11392, .inr (.inl (fun j9 => lN (Vf j9)))))]) [0, 1, 2] rfl
            have hD9 := hD.sub (ws' := [(h0, .inr (11, [w0, w1, w2, w3, w4, w5, w6, w7, w8, .ref vv, .ref pr, .ref fd, w12, w13, w14, w15, w16, w17, w18, w19, w20, w21, w22, w23, w24, w25, w26, w27, w28, w29, w30, w31, w32, w33])), (pr, .inl (kp, 40, .inr (.inl (fun j9 => lN (F j9))))), (vv, .inl (kq, 11392, .inr (.inl (fun j9 => lN (Vf j9)))))]) [0, 1, 2] (by decide) rfl
            have hK9 := hK.sub (tys' := []) [] rfl
            rw [hQg]
            exact W.zret (v := (nI 1)) hx hb hr rfl (fun t ht hW => ⟨⟨(nI 1), (), rfl, (Or.inr ⟨rfl, kv_ge (fun j hj => hV _ (by omega)) 16 (Nat.le_refl _) (d9 - 1) (by omega) (fun j h1 h2 => by rw [Nat.zero_add]; exact hj9 j (by omega) h2) (by rw [Nat.zero_add]; omega)⟩), by rw [ht]; exact hP9, va_K.moved hW.alike hK9, hD9⟩, hS.F ht⟩) hS.2.2 d_Mo_isAbove_54
  exact lb_3 (16 + 1) (nI 15) 16 _ _ _ (by decide) (by omega) (fun j h1 h2 => absurd h2 (by omega)) (Nat.lt_succ_self _) (hP.sub [0, 1, 2] rfl) (hD.sub [0, 1, 2] (by decide) rfl) hS (lv_sub hl [1, 2, 0] rfl)

-- ThresholdBenchModel.reduce
set_option maxHeartbeats 4000000 in
set_option maxRecDepth 100000 in
theorem c_Mo_reduce (l : Launch) (dC : Nat → ClassId) (dI : Nat → Nat → Nat) (h0 : Nat) (pr : Nat) (kp : ClassId) (F : Nat → Nat) (vv : Nat) (kq : ClassId) (Vf : Nat → Nat) (fd : Nat) (kf : ClassId) (Gf : Nat → Nat) (mm : Nat) (w0 : Value) (w1 : Value) (w2 : Value) (w3 : Value) (w4 : Value) (w5 : Value) (w6 : Value) (w7 : Value) (w8 : Value) (w12 : Value) (w13 : Value) (w14 : Value) (w15 : Value) (w16 : Value) (w17 : Value) (w18 : Value) (w19 : Value) (w20 : Value) (w21 : Value) (w22 : Value) (w23 : Value) (w24 : Value) (w25 : Value) (w26 : Value) (w27 : Value) (w28 : Value) (w29 : Value) (w30 : Value) (w31 : Value) (w32 : Value) (w33 : Value) (sz : Nat) (hm : mm < 2) (hF : ∀ i, i < 40 → F i < 65536) (hT : kv F 0 40 < 65536 ^ 39) (hG : ∀ i, i < 576 → Gf i < 65536) (hV : ∀ i, i < 32 → Vf i < 65536) (hM : 0 < kv Vf (16 * mm) 16) : Met l y_Mo_reduce (.code y_Mo_reduce prog_14_method_5_code 8 (none) :: AW) ({ frames := 1, cells := 0, slots := 0, locals := 22 } : Room) (va_Pc [.ref h0, .int (nI mm)] (pw (dC, dI) CL [(h0, .inr (11, [w0, w1, w2, w3, w4, w5, w6, w7, w8, .ref vv, .ref pr, .ref fd, w12, w13, w14, w15, w16, w17, w18, w19, w20, w21, w22, w23, w24, w25, w26, w27, w28, w29, w30, w31, w32, w33])), (pr, .inl (kp, 40, .inr (.inl (fun j9 => lN (F j9))))), (vv, .inl (kq, 11392, .inr (.inl (fun j9 => lN (Vf j9))))), (fd, .inl (kf, 576, .inr (.inl (fun j9 => lN (Gf j9)))))] [(kp, .long), (kq, .long), (kf, .long)] sz)) (va_Qv (fun u : (Nat → Nat) => ∀ i, i < 16 → u i < 65536) (fun (u : (Nat → Nat)) t => qw (dC, dI) CL (va_A [(h0, .inr (11, [w0, w1, w2, w3, w4, w5, w6, w7, w8, .ref vv, .ref pr, .ref fd, w12, w13, w14, w15, w16, w17, w18, w19, w20, w21, w22, w23, w24, w25, w26, w27, w28, w29, w30, w31, w32, w33])), (pr, .inl (kp, 40, .inr (.inl (fun j9 => lN (F j9))))), (vv, .inl (kq, 11392, .inr (.inl (fun j9 => lN (Vf j9))))), (fd, .inl (kf, 576, .inr (.inl (fun j9 => lN (Gf j9)))))] sz) ((fun u : (Nat → Nat) => [(h0, .inr (11, [w0, w1, w2, w3, w4, w5, w6, w7, w8, .ref vv, .ref pr, .ref fd, w12, w13, w14, w15, w16, w17, w18, w19, w20, w21, w22, w23, w24, w25, w26, w27, w28, w29, w30, w31, w32, w33])), (pr, .inl (kp, 40, .inr (.inl (fun j9 => lN (u j9))))), (vv, .inl (kq, 11392, .inr (.inl (fun j9 => lN (Vf j9))))), (fd, .inl (kf, 576, .inr (.inl (fun j9 => lN (Gf j9)))))]) u) ((fun u : (Nat → Nat) => []) u) t) (va_A [(h0, .inr (11, [w0, w1, w2, w3, w4, w5, w6, w7, w8, .ref vv, .ref pr, .ref fd, w12, w13, w14, w15, w16, w17, w18, w19, w20, w21, w22, w23, w24, w25, w26, w27, w28, w29, w30, w31, w32, w33])), (pr, .inl (kp, 40, .inr (.inl (fun j9 => lN (F j9))))), (vv, .inl (kq, 11392, .inr (.inl (fun j9 => lN (Vf j9))))), (fd, .inl (kf, 576, .inr (.inl (fun j9 => lN (Gf j9)))))] sz)) 0 0 (va_A [(h0, .inr (11, [w0, w1, w2, w3, w4, w5, w6, w7, w8, .ref vv, .ref pr, .ref fd, w12, w13, w14, w15, w16, w17, w18, w19, w20, w21, w22, w23, w24, w25, w26, w27, w28, w29, w30, w31, w32, w33])), (pr, .inl (kp, 40, .inr (.inl (fun j9 => lN (F j9))))), (vv, .inl (kq, 11392, .inr (.inl (fun j9 => lN (Vf j9))))), (fd, .inl (kf, 576, .inr (.inl (fun j9 => lN (Gf j9)))))] sz) := by
  refine Met.ofW (cc := prog_14_method_5_code) (maxL := 8) (ret := none) (by decide) rfl ?_
  intro p e s m args below meth c s₁ B hml hv
  obtain ⟨rfl, hsz, hP, hK, hD0, hZ, hN⟩ := hv
  have hx := B.exec
  have hb := B.bytes
  have hr := B.returns
  have hts := kw (atoms_spec (ws := .code y_Mo_reduce prog_14_method_5_code 8 (none) :: AW) B.pre)
  have hown : s.vm.findClass R_Mo = some m.cls := findClass_of_methodNamed B.named
  have hlocks := B.notSynchronized
  subst hsz
  have hD := hD0.self (sz := s.heap.size)
  obtain ⟨Qg, hQg⟩ : ∃ q, q = MQ below (va_Qv (fun u : (Nat → Nat) => ∀ i, i < 16 → u i < 65536) (fun (u : (Nat → Nat)) t => qw (dC, dI) CL (va_A [(h0, .inr (11, [w0, w1, w2, w3, w4, w5, w6, w7, w8, .ref vv, .ref pr, .ref fd, w12, w13, w14, w15, w16, w17, w18, w19, w20, w21, w22, w23, w24, w25, w26, w27, w28, w29, w30, w31, w32, w33])), (pr, .inl (kp, 40, .inr (.inl (fun j9 => lN (F j9))))), (vv, .inl (kq, 11392, .inr (.inl (fun j9 => lN (Vf j9))))), (fd, .inl (kf, 576, .inr (.inl (fun j9 => lN (Gf j9)))))] s.heap.size) ((fun u : (Nat → Nat) => [(h0, .inr (11, [w0, w1, w2, w3, w4, w5, w6, w7, w8, .ref vv, .ref pr, .ref fd, w12, w13, w14, w15, w16, w17, w18, w19, w20, w21, w22, w23, w24, w25, w26, w27, w28, w29, w30, w31, w32, w33])), (pr, .inl (kp, 40, .inr (.inl (fun j9 => lN (u j9))))), (vv, .inl (kq, 11392, .inr (.inl (fun j9 => lN (Vf j9))))), (fd, .inl (kf, 576, .inr (.inl (fun j9 => lN (Gf j9)))))]) u) ((fun u : (Nat → Nat) => []) u) t) (va_A [(h0, .inr (11, [w0, w1, w2, w3, w4, w5, w6, w7, w8, .ref vv, .ref pr, .ref fd, w12, w13, w14, w15, w16, w17, w18, w19, w20, w21, w22, w23, w24, w25, w26, w27, w28, w29, w30, w31, w32, w33])), (pr, .inl (kp, 40, .inr (.inl (fun j9 => lN (F j9))))), (vv, .inl (kq, 11392, .inr (.inl (fun j9 => lN (Vf j9))))), (fd, .inl (kf, 576, .inr (.inl (fun j9 => lN (Gf j9)))))] s.heap.size)) ([.ref h0, .int (nI mm)] : List Value).toArray s 0 0 (va_A [(h0, .inr (11, [w0, w1, w2, w3, w4, w5, w6, w7, w8, .ref vv, .ref pr, .ref fd, w12, w13, w14, w15, w16, w17, w18, w19, w20, w21, w22, w23, w24, w25, w26, w27, w28, w29, w30, w31, w32, w33])), (pr, .inl (kp, 40, .inr (.inl (fun j9 => lN (F j9))))), (vv, .inl (kq, 11392, .inr (.inl (fun j9 => lN (Vf j9))))), (fd, .inl (kf, 576, .inr (.inl (fun j9 => lN (Gf j9)))))] s.heap.size) := ⟨_, rfl⟩
  rw [← hQg]
  generalize hAe : va_A [(h0, .inr (11, [w0, w1, w2, w3, w4, w5, w6, w7, w8, .ref vv, .ref pr, .ref fd, w12, w13, w14, w15, w16, w17, w18, w19, w20, w21, w22, w23, w24, w25, w26, w27, w28, w29, w30, w31, w32, w33])), (pr, .inl (kp, 40, .inr (.inl (fun j9 => lN (F j9))))), (vv, .inl (kq, 11392, .inr (.inl (fun j9 => lN (Vf j9))))), (fd, .inl (kf, 576, .inr (.inl (fun j9 => lN (Gf j9)))))] s.heap.size = A at hD hZ hQg
  have hA : ∀ q : Nat, s.heap.size ≤ q → A q := fun q h => by rw [← hAe]; exact Or.inr h
  have hS : va_S A s.heap s.heap [] := va_S.rf
  have hP : va_P (dC, dI) CL [(h0, .inr (11, [w0, w1, w2, w3, w4, w5, w6, w7, w8, .ref vv, .ref pr, .ref fd, w12, w13, w14, w15, w16, w17, w18, w19, w20, w21, w22, w23, w24, w25, w26, w27, w28, w29, w30, w31, w32, w33])), (pr, .inl (kp, 40, .inr (.inl (fun j9 => lN (F j9))))), (vv, .inl (kq, 11392, .inr (.inl (fun j9 => lN (Vf j9))))), (fd, .inl (kf, 576, .inr (.inl (fun j9 => lN (Gf j9)))))] s.heap := hP
  have hl := lv_entry ([.ref h0, .int (nI mm)]) (n := 8) (Nat.le_of_ble_eq_true rfl)
  rw [lg_entry_eq]
  generalize (lg_sl ([.ref h0, .int (nI mm)]) ++ List.replicate (8 - (lg_sl ([.ref h0, .int (nI mm)])).length) Slot.unset).toArray = ls at hl ⊢
  have hl : lv_has ls 8 [(0, .ref h0), (1, .int (nI mm))] := hl
  show W p l e ({ frames := 1, cells := 0, slots := 0, locals := 22 } : Room) s m ([.ref h0, .int (nI mm)] : List Value).toArray below meth c s.heap [] 0 0 Qg (F0 m 0 ls [])
  refine lv_aload_n hx hb d_Mo_reduce_0 rfl (lv_at hl 0 rfl) ?_
  refine k_finv (wr := [(vv, .inl (kq, 11392, .inr (.inl (fun j9 => lN (Vf j9))))), (fd, .inl (kf, 576, .inr (.inl (fun j9 => lN (Gf j9)))))]) [0, 1] [2, 3] (k_runV (n := 0) (As := []) (rest := []) (wc := [(h0, .inr (11, [w0, w1, w2, w3, w4, w5, w6, w7, w8, .ref vv, .ref pr, .ref fd, w12, w13, w14, w15, w16, w17, w18, w19, w20, w21, w22, w23, w24, w25, w26, w27, w28, w29, w30, w31, w32, w33])), (pr, .inl (kp, 40, .inr (.inl (fun j9 => lN (F j9)))))]) ⟨hx, hb, hml, hown, hts⟩ (c_Mo_carry l dC dI h0 pr kp F w0 w1 w2 w3 w4 w5 w6 w7 w8 (.ref vv) (.ref fd) w12 w13 w14 w15 w16 w17 w18 w19 w20 w21 w22 w23 w24 w25 w26 w27 w28 w29 w30 w31 w32 w33 _ (fun i hi => by have := hF i hi; omega)) (kg_V m_322 m_323 m_324 m_263 (kg_code m_321)) (by decide +kernel) rfl rfl ⟨Nat.le_of_ble_eq_true rfl, Nat.le_of_ble_eq_true rfl⟩ [0, 1] [0] hP hD hK hS hA hZ hN (by rfl) (by decide) (by rfl) rfl rfl rfl rfl hl.1 rfl (Nat.le_of_ble_eq_true rfl) d_Mo_reduce_1 ⟨(Nat.le_of_ble_eq_true rfl), (Nat.le_of_ble_eq_true rfl)⟩) hP hD hK hS hA (by rfl) (by rfl) (by decide) (by decide) (fun u9 H locs hw_3 hP hD hK hS => ?_)
  obtain ⟨Z_1, rfl⟩ : ∃ z, z = u9 := ⟨_, rfl⟩
  try dsimp only at hw_3
  have hP : va_P (dC, dI) CL [(vv, .inl (kq, 11392, .inr (.inl (fun j9 => lN (Vf j9))))), (fd, .inl (kf, 576, .inr (.inl (fun j9 => lN (Gf j9))))), (h0, .inr (11, [w0, w1, w2, w3, w4, w5, w6, w7, w8, .ref vv, .ref pr, .ref fd, w12, w13, w14, w15, w16, w17, w18, w19, w20, w21, w22, w23, w24, w25, w26, w27, w28, w29, w30, w31, w32, w33])), (pr, .inl (kp, 40, .inr (.inl (fun j9 => lN (Z_1 j9)))))] H := hP
  have hD : va_D A [(vv, .inl (kq, 11392, .inr (.inl (fun j9 => lN (Vf j9))))), (fd, .inl (kf, 576, .inr (.inl (fun j9 => lN (Gf j9))))), (h0, .inr (11, [w0, w1, w2, w3, w4, w5, w6, w7, w8, .ref vv, .ref pr, .ref fd, w12, w13, w14, w15, w16, w17, w18, w19, w20, w21, w22, w23, w24, w25, w26, w27, w28, w29, w30, w31, w32, w33])), (pr, .inl (kp, 40, .inr (.inl (fun j9 => lN (Z_1 j9)))))] := hD
  have hK : va_K (dC, dI) CL [(kp, .long), (kq, .long), (kf, .long)] s := hK
  have hb1 : ∀ i, i < 40 → Z_1 i < 65536 := kd_all (by rw [hw_3.1]; exact hT) hw_3.2.1
  have ht1 : kv Z_1 0 40 < 65536 ^ 39 := by rw [hw_3.1]; exact hT
  refine lv_iconst (v := (nI 1)) hx hb d_Mo_reduce_4 (by decide +kernel) ?_
  refine lv_istore_n (lv' := [(2, .int (nI 1)), (0, .ref h0), (1, .int (nI mm))]) hx hb d_Mo_reduce_5 rfl hl (by decide) rfl (fun ls hl => ?_)
  have lb_6 : ∀ (n9 : Nat) (mo9 : Nat) (F9 : Nat → Nat) (H : Heap) (locs : List Loc) (ls : Array Slot), (mo9 ≤ 1) → (∀ i, i < 40 → F9 i < 65536) → (kv F9 0 40 < 65536 ^ 39) → (2 * kv F9 0 40 + mo9 < n9) → va_P (dC, dI) CL [(h0, .inr (11, [w0, w1, w2, w3, w4, w5, w6, w7, w8, .ref vv, .ref pr, .ref fd, w12, w13, w14, w15, w16, w17, w18, w19, w20, w21, w22, w23, w24, w25, w26, w27, w28, w29, w30, w31, w32, w33])), (pr, .inl (kp, 40, .inr (.inl (fun j9 => lN (F9 j9))))), (vv, .inl (kq, 11392, .inr (.inl (fun j9 => lN (Vf j9))))), (fd, .inl (kf, 576, .inr (.inl (fun j9 => lN (Gf j9)))))] H → va_D A [(h0, .inr (11, [w0, w1, w2, w3, w4, w5, w6, w7, w8, .ref vv, .ref pr, .ref fd, w12, w13, w14, w15, w16, w17, w18, w19, w20, w21, w22, w23, w24, w25, w26, w27, w28, w29, w30, w31, w32, w33])), (pr, .inl (kp, 40, .inr (.inl (fun j9 => lN (F9 j9))))), (vv, .inl (kq, 11392, .inr (.inl (fun j9 => lN (Vf j9))))), (fd, .inl (kf, 576, .inr (.inl (fun j9 => lN (Gf j9)))))] → va_S A s.heap H locs → lv_has ls 8 [(0, .ref h0), (1, .int (nI mm)), (2, .int (nI mo9))] → W p l e ({ frames := 1, cells := 0, slots := 0, locals := 22 } : Room) s m ([.ref h0, .int (nI mm)] : List Value).toArray below meth c H locs 0 0 Qg (F0 m 6 ls []) := by
    intro n9
    induction n9 with
    | zero => intro mo9 F9 H locs ls hmo hb9 ht9 hm9; exact absurd hm9 (Nat.not_lt_zero _)
    | succ n9 ih6 =>
      intro mo9 F9 H locs ls hmo hb9 ht9 hm6 hP hD hS hl
      refine lv_iload_n hx hb d_Mo_reduce_6 rfl (lv_at hl 2 rfl) ?_
      refine lv_if_eq (tgt := 123) hx hb d_Mo_reduce_7 (by decide) (fun c7 => ?_) (fun c7 => ?_)
      · have c7 : mo9 = 0 := (nI_eq (by omega) (by omega)).mp c7
        have lb_123 : ∀ (n9 : Nat) (F4 : Nat → Nat) (H : Heap) (locs : List Loc) (ls : Array Slot), (∀ i, i < 16 → F4 i < 65536) → (kv F4 0 16 < n9) → va_P (dC, dI) CL [(h0, .inr (11, [w0, w1, w2, w3, w4, w5, w6, w7, w8, .ref vv, .ref pr, .ref fd, w12, w13, w14, w15, w16, w17, w18, w19, w20, w21, w22, w23, w24, w25, w26, w27, w28, w29, w30, w31, w32, w33])), (pr, .inl (kp, 40, .inr (.inl (fun j9 => lN (F4 j9))))), (vv, .inl (kq, 11392, .inr (.inl (fun j9 => lN (Vf j9))))), (fd, .inl (kf, 576, .inr (.inl (fun j9 => lN (Gf j9)))))] H → va_D A [(h0, .inr (11, [w0, w1, w2, w3, w4, w5, w6, w7, w8, .ref vv, .ref pr, .ref fd, w12, w13, w14, w15, w16, w17, w18, w19, w20, w21, w22, w23, w24, w25, w26, w27, w28, w29, w30, w31, w32, w33])), (pr, .inl (kp, 40, .inr (.inl (fun j9 => lN (F4 j9))))), (vv, .inl (kq, 11392, .inr (.inl (fun j9 => lN (Vf j9))))), (fd, .inl (kf, 576, .inr (.inl (fun j9 => lN (Gf j9)))))] → va_S A s.heap H locs → lv_has ls 8 [(0, .ref h0), (1, .int (nI mm))] → W p l e ({ frames := 1, cells := 0, slots := 0, locals := 22 } : Room) s m ([.ref h0, .int (nI mm)] : List Value).toArray below meth c H locs 0 0 Qg (F0 m 123 ls []) := by
          intro n9
          induction n9 with
          | zero => intro F4 H locs ls hb4 hm9; exact absurd hm9 (Nat.not_lt_zero _)
          | succ n9 ih123 =>
            intro F4 H locs ls hb4 hm123 hP hD hS hl
            refine lv_aload_n hx hb d_Mo_reduce_123 rfl (lv_at hl 0 rfl) ?_
            refine lv_iload_n hx hb d_Mo_reduce_124 rfl (lv_at hl 1 rfl) ?_
            refine k_fini (wr := [(fd, .inl (kf, 576, .inr (.inl (fun j9 => lN (Gf j9)))))]) [0, 1, 2] [3] (k_runV (n := 1) (As := [.int (nI mm)]) (rest := []) (wc := [(h0, .inr (11, [w0, w1, w2, w3, w4, w5, w6, w7, w8, .ref vv, .ref pr, .ref fd, w12, w13, w14, w15, w16, w17, w18, w19, w20, w21, w22, w23, w24, w25, w26, w27, w28, w29, w30, w31, w32, w33])), (pr, .inl (kp, 40, .inr (.inl (fun j9 => lN (F4 j9))))), (vv, .inl (kq, 11392, .inr (.inl (fun j9 => lN (Vf j9)))))]) ⟨hx, hb, hml, hown, hts⟩ (c_Mo_isAbove l dC dI h0 pr kp F4 vv kq Vf fd mm w0 w1 w2 w3 w4 w5 w6 w7 w8 w12 w13 w14 w15 w16 w17 w18 w19 w20 w21 w22 w23 w24 w25 w26 w27 w28 w29 w30 w31 w32 w33 _ hm hb4 hV) (kg_V m_326 m_327 m_328 m_263 (kg_code m_325)) (by decide +kernel) rfl rfl ⟨Nat.le_of_ble_eq_true rfl, Nat.le_of_ble_eq_true rfl⟩ [0, 1, 2] [0, 1] hP hD hK hS hA hZ hN (by rfl) (by decide) (by rfl) rfl rfl rfl rfl hl.1 rfl (Nat.le_of_ble_eq_true rfl) d_Mo_reduce_125 ⟨(Nat.le_of_ble_eq_true rfl), (Nat.le_of_ble_eq_true rfl)⟩) hP hD hK hS hA (by rfl) (by rfl) (by decide) (by decide) (fun r_4 u9 H locs hw_5 hP hD hK hS => ?_)
            try dsimp only at hw_5
            have hP : va_P (dC, dI) CL [(fd, .inl (kf, 576, .inr (.inl (fun j9 => lN (Gf j9))))), (h0, .inr (11, [w0, w1, w2, w3, w4, w5, w6, w7, w8, .ref vv, .ref pr, .ref fd, w12, w13, w14, w15, w16, w17, w18, w19, w20, w21, w22, w23, w24, w25, w26, w27, w28, w29, w30, w31, w32, w33])), (pr, .inl (kp, 40, .inr (.inl (fun j9 => lN (F4 j9))))), (vv, .inl (kq, 11392, .inr (.inl (fun j9 => lN (Vf j9)))))] H := hP
            have hD : va_D A [(fd, .inl (kf, 576, .inr (.inl (fun j9 => lN (Gf j9))))), (h0, .inr (11, [w0, w1, w2, w3, w4, w5, w6, w7, w8, .ref vv, .ref pr, .ref fd, w12, w13, w14, w15, w16, w17, w18, w19, w20, w21, w22, w23, w24, w25, w26, w27, w28, w29, w30, w31, w32, w33])), (pr, .inl (kp, 40, .inr (.inl (fun j9 => lN (F4 j9))))), (vv, .inl (kq, 11392, .inr (.inl (fun j9 => lN (Vf j9)))))] := hD
            have hK : va_K (dC, dI) CL [(kp, .long), (kq, .long), (kf, .long)] s := hK
            refine lv_if_eq (tgt := 195) hx hb d_Mo_reduce_128 (by decide) (fun c128 => ?_) (fun c128 => ?_)
            · have hP9 := hP.sub (ws' := [(h0, .inr (11, [w0, w1, w2, w3, w4, w5, w6, w7, w8, .ref vv, .ref pr, .ref fd, w12, w13, w14, w15, w16, w17, w18, w19, w20, w21, w22, w23, w24, w25, w26, w27, w28, w29, w30, w31, w32, w33])), (pr, .inl (kp, 40, .inr (.inl (fun j9 => lN (F4 j9))))), (vv, .inl (kq, 11392, .inr (.inl (fun j9 => lN (Vf j9))))), (fd, .inl (kf, 576, .inr (.inl (fun j9 => lN (Gf j9)))))]) [1, 2, 3, 0] rfl
              have hD9 := hD.sub (ws' := [(h0, .inr (11, [w0, w1, w2, w3, w4, w5, w6, w7, w8, .ref vv, .ref pr, .ref fd, w12, w13, w14, w15, w16, w17, w18, w19, w20, w21, w22, w23, w24, w25, w26, w27, w28, w29, w30, w31, w32, w33])), (pr, .inl (kp, 40, .inr (.inl (fun j9 => lN (F4 j9))))), (vv, .inl (kq, 11392, .inr (.inl (fun j9 => lN (Vf j9))))), (fd, .inl (kf, 576, .inr (.inl (fun j9 => lN (Gf j9)))))]) [1, 2, 3, 0] (by decide) rfl
              have hK9 := hK.sub (tys' := []) [] rfl
              rw [hQg]
              exact W.vret hx hb hr (fun t ht hW => ⟨⟨(F4), rfl, hb4, by rw [ht]; exact hP9, va_K.moved hW.alike hK9, hD9⟩, hS.F ht⟩) hS.2.2 d_Mo_reduce_195
            · have hge9 : kv Vf (16 * mm) 16 ≤ kv F4 0 16 := by rcases hw_5 with h | h; exact absurd h c128; exact h.2
              refine lv_lconst (v := lN 0) hx hb d_Mo_reduce_131 (by decide +kernel) ?_
              refine lv_lstore_n (lv' := [(3, .long (lN 0)), (0, .ref h0), (1, .int (nI mm))]) hx hb d_Mo_reduce_132 rfl hl (by decide) rfl (fun ls hl => ?_)
              refine lv_iconst (v := (nI 0)) hx hb d_Mo_reduce_133 (by decide +kernel) ?_
              refine lv_istore (lv' := [(5, .int (nI 0)), (3, .long (lN 0)), (0, .ref h0), (1, .int (nI mm))]) hx hb d_Mo_reduce_134 hl (by decide) rfl (fun ls hl => ?_)
              have lb_136 : ∀ (n9 : Nat) (o9 : Int64) (d9 : Nat) (F3 : Nat → Nat) (H : Heap) (locs : List Loc) (ls : Array Slot), (d9 ≤ 16) → (kt F4 F3 Vf (16 * mm) d9 o9) → (16 - d9 < n9) → va_P (dC, dI) CL [(h0, .inr (11, [w0, w1, w2, w3, w4, w5, w6, w7, w8, .ref vv, .ref pr, .ref fd, w12, w13, w14, w15, w16, w17, w18, w19, w20, w21, w22, w23, w24, w25, w26, w27, w28, w29, w30, w31, w32, w33])), (pr, .inl (kp, 40, .inr (.inl (fun j9 => lN (F3 j9))))), (vv, .inl (kq, 11392, .inr (.inl (fun j9 => lN (Vf j9))))), (fd, .inl (kf, 576, .inr (.inl (fun j9 => lN (Gf j9)))))] H → va_D A [(h0, .inr (11, [w0, w1, w2, w3, w4, w5, w6, w7, w8, .ref vv, .ref pr, .ref fd, w12, w13, w14, w15, w16, w17, w18, w19, w20, w21, w22, w23, w24, w25, w26, w27, w28, w29, w30, w31, w32, w33])), (pr, .inl (kp, 40, .inr (.inl (fun j9 => lN (F3 j9))))), (vv, .inl (kq, 11392, .inr (.inl (fun j9 => lN (Vf j9))))), (fd, .inl (kf, 576, .inr (.inl (fun j9 => lN (Gf j9)))))] → va_S A s.heap H locs → lv_has ls 8 [(0, .ref h0), (1, .int (nI mm)), (3, .long o9), (5, .int (nI d9))] → W p l e ({ frames := 1, cells := 0, slots := 0, locals := 22 } : Room) s m ([.ref h0, .int (nI mm)] : List Value).toArray below meth c H locs 0 0 Qg (F0 m 136 ls []) := by
                intro n9
                induction n9 with
                | zero => intro o9 d9 F3 H locs ls hd3 ht3 hm9; exact absurd hm9 (Nat.not_lt_zero _)
                | succ n9 ih136 =>
                  intro o9 d9 F3 H locs ls hd3 ht3 hm136 hP hD hS hl
                  refine lv_iload hx hb d_Mo_reduce_136 (lv_at hl 3 rfl) ?_
                  refine lv_bipush (v := (nI 16)) hx hb d_Mo_reduce_138 (by decide +kernel) ?_
                  refine lv_icmp_ge (tgt := 192) hx hb d_Mo_reduce_140 (by decide) (fun c140 => ?_) (fun c140 => ?_)
                  · have c140 : 16 ≤ d9 := (nI_leI (by omega) (by omega)).mp c140
                    refine lv_goto (tgt := 123) hx hb d_Mo_reduce_192 (by decide) ?_
                    exact ih123  F3 _ _ _ ht3.2.1 (by have := kt_end ht3 (by omega) hM hge9; omega) (hP.sub [0, 1, 2, 3] rfl) (hD.sub [0, 1, 2, 3] (by decide) rfl) hS (lv_sub hl [0, 1] rfl)
                  · have c140 : ¬ (16 ≤ d9) := fun h => c140 ((nI_leI (by omega) (by omega)).mpr h)
                    refine lv_aload_n hx hb d_Mo_reduce_143 rfl (lv_at hl 0 rfl) ?_
                    refine va_get (D := (dC, dI)) (ci := 11) (v := .ref pr) (C := R_Mo) (T := F_Mo) (N := 34) hx hb hts i_Mo hown hK hP 0 rfl rfl 10 (by decide) (hts _ m_318) (fun _ h9 => h9) rfl d_Mo_reduce_144 ?_
                    refine lv_iload hx hb d_Mo_reduce_147 (lv_at hl 3 rfl) ?_
                    refine kv_lald hx hb hK hP 1 0 rfl rfl (by omega) (by omega) d_Mo_reduce_149 ?_
                    refine kl (v := lN (F3 d9)) rfl ?_
                    refine lv_aload_n hx hb d_Mo_reduce_150 rfl (lv_at hl 0 rfl) ?_
                    refine va_get (D := (dC, dI)) (ci := 11) (v := .ref vv) (C := R_Mo) (T := F_Mo) (N := 34) hx hb hts i_Mo hown hK hP 0 rfl rfl 9 (by decide) (hts _ m_320) (fun _ h9 => h9) rfl d_Mo_reduce_151 ?_
                    refine lv_bipush (v := (nI 16)) hx hb d_Mo_reduce_154 (by decide +kernel) ?_
                    refine lv_iload_n hx hb d_Mo_reduce_156 rfl (lv_at hl 1 rfl) ?_
                    refine lv_imul hx hb d_Mo_reduce_157 ?_
                    refine ki (v := nI (16 * mm)) (k_mul 16 mm rfl) ?_
                    refine lv_iload hx hb d_Mo_reduce_158 (lv_at hl 3 rfl) ?_
                    refine lv_iadd hx hb d_Mo_reduce_160 ?_
                    refine ki (v := nI (16 * mm + d9)) (k_add (16 * mm) d9 rfl) ?_
                    refine kv_lald hx hb hK hP 2 1 rfl rfl (by omega) (by omega) d_Mo_reduce_161 ?_
                    refine kl (v := lN (Vf (16 * mm + d9))) rfl ?_
                    refine lv_lsub hx hb d_Mo_reduce_162 ?_
                    refine lv_lload_n hx hb d_Mo_reduce_163 rfl (lv_at hl 2 rfl) ?_
                    refine lv_ladd hx hb d_Mo_reduce_164 ?_
                    refine lv_topl (fun y9 ey9 => ?_)
                    refine lv_lstore (lv' := [(6, .long y9), (0, .ref h0), (1, .int (nI mm)), (3, .long o9), (5, .int (nI d9))]) hx hb d_Mo_reduce_165 hl (by decide) rfl (fun ls hl => ?_)
                    obtain ⟨r9, b9, hr9, hb9x, er9, eb9, es9⟩ := k_sub16 (a := F3 d9) (b := Vf (16 * mm + d9)) (o := o9) (ht3.2.1 d9 (by omega)) (hV _ (by omega)) ht3.1
                    rw [← ey9] at er9 eb9
                    refine lv_aload_n hx hb d_Mo_reduce_167 rfl (lv_at hl 1 rfl) ?_
                    refine va_get (D := (dC, dI)) (ci := 11) (v := .ref pr) (C := R_Mo) (T := F_Mo) (N := 34) hx hb hts i_Mo hown hK hP 0 rfl rfl 10 (by decide) (hts _ m_318) (fun _ h9 => h9) rfl d_Mo_reduce_168 ?_
                    refine lv_iload hx hb d_Mo_reduce_171 (lv_at hl 4 rfl) ?_
                    refine lv_lload hx hb d_Mo_reduce_173 (lv_at hl 0 rfl) ?_
                    refine lv_ldc2 (v := lN 65535) hx hb hown (hts _ m_319) d_Mo_reduce_175 ?_
                    refine lv_land hx hb d_Mo_reduce_178 ?_
                    refine kl (v := (lN r9)) er9 ?_
                    refine kv_lastN hx hb hK hP hD hS 1 0 rfl rfl (by omega) (by omega) d_Mo_reduce_179 (fun H locs hP hD hS => ?_)
                    have hP : va_P (dC, dI) CL [(h0, .inr (11, [w0, w1, w2, w3, w4, w5, w6, w7, w8, .ref vv, .ref pr, .ref fd, w12, w13, w14, w15, w16, w17, w18, w19, w20, w21, w22, w23, w24, w25, w26, w27, w28, w29, w30, w31, w32, w33])), (pr, .inl (kp, 40, .inr (.inl (fun j9 => lN ((upN F3 d9 r9) j9))))), (vv, .inl (kq, 11392, .inr (.inl (fun j9 => lN (Vf j9))))), (fd, .inl (kf, 576, .inr (.inl (fun j9 => lN (Gf j9)))))] H := hP
                    have hD : va_D A [(h0, .inr (11, [w0, w1, w2, w3, w4, w5, w6, w7, w8, .ref vv, .ref pr, .ref fd, w12, w13, w14, w15, w16, w17, w18, w19, w20, w21, w22, w23, w24, w25, w26, w27, w28, w29, w30, w31, w32, w33])), (pr, .inl (kp, 40, .inr (.inl (fun j9 => lN ((upN F3 d9 r9) j9))))), (vv, .inl (kq, 11392, .inr (.inl (fun j9 => lN (Vf j9))))), (fd, .inl (kf, 576, .inr (.inl (fun j9 => lN (Gf j9)))))] := hD
                    obtain ⟨F2, eF2⟩ : ∃ z, z = upN F3 d9 r9 := ⟨_, rfl⟩
                    rw [← eF2] at hP hD
                    refine lv_lload hx hb d_Mo_reduce_180 (lv_at hl 0 rfl) ?_
                    refine lv_bipush (v := (nI 16)) hx hb d_Mo_reduce_182 (by decide +kernel) ?_
                    refine lv_lshr hx hb d_Mo_reduce_184 rfl ?_
                    refine kl (v := b9) eb9 ?_
                    refine lv_lstore_n (lv' := [(3, .long b9), (6, .long y9), (0, .ref h0), (1, .int (nI mm)), (5, .int (nI d9))]) hx hb d_Mo_reduce_185 rfl hl (by decide) rfl (fun ls hl => ?_)
                    refine lv_iinc (v := (nI (d9 + 1))) (lv' := [(5, .int (nI (d9 + 1))), (3, .long b9), (6, .long y9), (0, .ref h0), (1, .int (nI mm))]) hx hb d_Mo_reduce_186 hl (k := 4) rfl (k_inc _) (by decide) rfl (fun ls hl => ?_)
                    refine lv_goto (tgt := 136) hx hb d_Mo_reduce_189 (by decide) ?_
                    exact ih136  b9 (d9 + 1) F2 _ _ _ (by omega) (by subst eF2; exact kt_step ht3 (by omega) hr9 hb9x es9) (by omega) (hP.sub [0, 1, 2, 3] rfl) (hD.sub [0, 1, 2, 3] (by decide) rfl) hS (lv_sub hl [3, 4, 1, 0] rfl)
              exact lb_136 (16 - 0 + 1) (lN 0) 0 F4 _ _ _ (by omega) (kt_0 hb4) (Nat.lt_succ_self _) (hP.sub [1, 2, 3, 0] rfl) (hD.sub [1, 2, 3, 0] (by decide) rfl) hS (lv_sub hl [2, 3, 1, 0] rfl)
        exact lb_123 (kv F9 0 16 + 1) F9 _ _ _ (fun i hi => hb9 i (by omega)) (Nat.lt_succ_self _) (hP.sub [0, 1, 2, 3] rfl) (hD.sub [0, 1, 2, 3] (by decide) rfl) hS (lv_sub hl [0, 1] rfl)
      · have c7 : ¬ (mo9 = 0) := fun h => c7 ((nI_eq (by omega) (by decide)).mpr h)
        refine lv_iconst (v := (nI 0)) hx hb d_Mo_reduce_10 (by decide +kernel) ?_
        refine lv_istore_n (lv' := [(2, .int (nI 0)), (0, .ref h0), (1, .int (nI mm))]) hx hb d_Mo_reduce_11 rfl hl (by decide) rfl (fun ls hl => ?_)
        refine lv_bipush (v := (nI 16)) hx hb d_Mo_reduce_12 (by decide +kernel) ?_
        refine lv_istore_n (lv' := [(3, .int (nI 16)), (2, .int (nI 0)), (0, .ref h0), (1, .int (nI mm))]) hx hb d_Mo_reduce_14 rfl hl (by decide) rfl (fun ls hl => ?_)
        have lb_15 : ∀ (n9 : Nat) (mo8 : Nat) (k9 : Nat) (F8 : Nat → Nat) (H : Heap) (locs : List Loc) (ls : Array Slot), (16 ≤ k9) → (k9 ≤ 34) → (mo8 ≤ 1) → (kb F8 k9) → (kv F8 0 40 ≤ kv F9 0 40) → (mo8 = 1 → kv F8 0 40 < kv F9 0 40) → (34 - k9 < n9) → va_P (dC, dI) CL [(h0, .inr (11, [w0, w1, w2, w3, w4, w5, w6, w7, w8, .ref vv, .ref pr, .ref fd, w12, w13, w14, w15, w16, w17, w18, w19, w20, w21, w22, w23, w24, w25, w26, w27, w28, w29, w30, w31, w32, w33])), (pr, .inl (kp, 40, .inr (.inl (fun j9 => lN (F8 j9))))), (vv, .inl (kq, 11392, .inr (.inl (fun j9 => lN (Vf j9))))), (fd, .inl (kf, 576, .inr (.inl (fun j9 => lN (Gf j9)))))] H → va_D A [(h0, .inr (11, [w0, w1, w2, w3, w4, w5, w6, w7, w8, .ref vv, .ref pr, .ref fd, w12, w13, w14, w15, w16, w17, w18, w19, w20, w21, w22, w23, w24, w25, w26, w27, w28, w29, w30, w31, w32, w33])), (pr, .inl (kp, 40, .inr (.inl (fun j9 => lN (F8 j9))))), (vv, .inl (kq, 11392, .inr (.inl (fun j9 => lN (Vf j9))))), (fd, .inl (kf, 576, .inr (.inl (fun j9 => lN (Gf j9)))))] → va_S A s.heap H locs → lv_has ls 8 [(0, .ref h0), (1, .int (nI mm)), (2, .int (nI mo8)), (3, .int (nI k9))] → W p l e ({ frames := 1, cells := 0, slots := 0, locals := 22 } : Room) s m ([.ref h0, .int (nI mm)] : List Value).toArray below meth c H locs 0 0 Qg (F0 m 15 ls []) := by
          intro n9
          induction n9 with
          | zero => intro mo8 k9 F8 H locs ls hk8 hk7 hmo8 hb8 hv8 hs8 hm9; exact absurd hm9 (Nat.not_lt_zero _)
          | succ n9 ih15 =>
            intro mo8 k9 F8 H locs ls hk8 hk7 hmo8 hb8 hv8 hs8 hm15 hP hD hS hl
            refine lv_iload_n hx hb d_Mo_reduce_15 rfl (lv_at hl 3 rfl) ?_
            refine lv_bipush (v := (nI 34)) hx hb d_Mo_reduce_16 (by decide +kernel) ?_
            refine lv_icmp_ge (tgt := 116) hx hb d_Mo_reduce_18 (by decide) (fun c18 => ?_) (fun c18 => ?_)
            · have c18 : 34 ≤ k9 := (nI_leI (by omega) (by omega)).mp c18
              refine lv_aload_n hx hb d_Mo_reduce_116 rfl (lv_at hl 0 rfl) ?_
              refine k_finv (wr := [(vv, .inl (kq, 11392, .inr (.inl (fun j9 => lN (Vf j9))))), (fd, .inl (kf, 576, .inr (.inl (fun j9 => lN (Gf j9)))))]) [0, 1] [2, 3] (k_runV (n := 0) (As := []) (rest := []) (wc := [(h0, .inr (11, [w0, w1, w2, w3, w4, w5, w6, w7, w8, .ref vv, .ref pr, .ref fd, w12, w13, w14, w15, w16, w17, w18, w19, w20, w21, w22, w23, w24, w25, w26, w27, w28, w29, w30, w31, w32, w33])), (pr, .inl (kp, 40, .inr (.inl (fun j9 => lN (F8 j9)))))]) ⟨hx, hb, hml, hown, hts⟩ (c_Mo_carry l dC dI h0 pr kp F8 w0 w1 w2 w3 w4 w5 w6 w7 w8 (.ref vv) (.ref fd) w12 w13 w14 w15 w16 w17 w18 w19 w20 w21 w22 w23 w24 w25 w26 w27 w28 w29 w30 w31 w32 w33 _ (kb_50 hb8 (by omega))) (kg_V m_322 m_323 m_324 m_263 (kg_code m_321)) (by decide +kernel) rfl rfl ⟨Nat.le_of_ble_eq_true rfl, Nat.le_of_ble_eq_true rfl⟩ [0, 1] [0] hP hD hK hS hA hZ hN (by rfl) (by decide) (by rfl) rfl rfl rfl rfl hl.1 rfl (Nat.le_of_ble_eq_true rfl) d_Mo_reduce_117 ⟨(Nat.le_of_ble_eq_true rfl), (Nat.le_of_ble_eq_true rfl)⟩) hP hD hK hS hA (by rfl) (by rfl) (by decide) (by decide) (fun u9 H locs hw_8 hP hD hK hS => ?_)
              obtain ⟨Z_6, rfl⟩ : ∃ z, z = u9 := ⟨_, rfl⟩
              try dsimp only at hw_8
              have hP : va_P (dC, dI) CL [(vv, .inl (kq, 11392, .inr (.inl (fun j9 => lN (Vf j9))))), (fd, .inl (kf, 576, .inr (.inl (fun j9 => lN (Gf j9))))), (h0, .inr (11, [w0, w1, w2, w3, w4, w5, w6, w7, w8, .ref vv, .ref pr, .ref fd, w12, w13, w14, w15, w16, w17, w18, w19, w20, w21, w22, w23, w24, w25, w26, w27, w28, w29, w30, w31, w32, w33])), (pr, .inl (kp, 40, .inr (.inl (fun j9 => lN (Z_6 j9)))))] H := hP
              have hD : va_D A [(vv, .inl (kq, 11392, .inr (.inl (fun j9 => lN (Vf j9))))), (fd, .inl (kf, 576, .inr (.inl (fun j9 => lN (Gf j9))))), (h0, .inr (11, [w0, w1, w2, w3, w4, w5, w6, w7, w8, .ref vv, .ref pr, .ref fd, w12, w13, w14, w15, w16, w17, w18, w19, w20, w21, w22, w23, w24, w25, w26, w27, w28, w29, w30, w31, w32, w33])), (pr, .inl (kp, 40, .inr (.inl (fun j9 => lN (Z_6 j9)))))] := hD
              have hK : va_K (dC, dI) CL [(kp, .long), (kq, .long), (kf, .long)] s := hK
              have ht2 : kv Z_6 0 40 < 65536 ^ 39 := by rw [hw_8.1]; exact Nat.lt_of_le_of_lt hv8 ht9
              have hb2 : ∀ i, i < 40 → Z_6 i < 65536 := kd_all ht2 hw_8.2.1
              have hs9 : mo8 = 0 ∨ kv F8 0 40 < kv F9 0 40 := if h : mo8 = 1 then Or.inr (hs8 h) else Or.inl (by omega)
              have hq9 : 2 * kv Z_6 0 40 + mo8 < 2 * kv F9 0 40 + mo9 := by rw [hw_8.1]; omega
              refine lv_goto (tgt := 6) hx hb d_Mo_reduce_120 (by decide) ?_
              exact ih6  mo8 Z_6 _ _ _ (by omega) hb2 ht2 (by omega) (hP.sub [2, 3, 0, 1] rfl) (hD.sub [2, 3, 0, 1] (by decide) rfl) hS (lv_sub hl [0, 1, 2] rfl)
            · have c18 : ¬ (34 ≤ k9) := fun h => c18 ((nI_leI (by omega) (by omega)).mpr h)
              refine lv_aload_n hx hb d_Mo_reduce_21 rfl (lv_at hl 0 rfl) ?_
              refine va_get (D := (dC, dI)) (ci := 11) (v := .ref pr) (C := R_Mo) (T := F_Mo) (N := 34) hx hb hts i_Mo hown hK hP 0 rfl rfl 10 (by decide) (hts _ m_318) (fun _ h9 => h9) rfl d_Mo_reduce_22 ?_
              refine lv_iload_n hx hb d_Mo_reduce_25 rfl (lv_at hl 3 rfl) ?_
              refine kv_lald hx hb hK hP 1 0 rfl rfl (by omega) (by omega) d_Mo_reduce_26 ?_
              refine kl (v := lN (F8 k9)) rfl ?_
              refine lv_lstore (lv' := [(4, .long (lN (F8 k9))), (0, .ref h0), (1, .int (nI mm)), (2, .int (nI mo8)), (3, .int (nI k9))]) hx hb d_Mo_reduce_27 hl (by decide) rfl (fun ls hl => ?_)
              refine lv_aload_n hx hb d_Mo_reduce_29 rfl (lv_at hl 1 rfl) ?_
              refine va_get (D := (dC, dI)) (ci := 11) (v := .ref pr) (C := R_Mo) (T := F_Mo) (N := 34) hx hb hts i_Mo hown hK hP 0 rfl rfl 10 (by decide) (hts _ m_318) (fun _ h9 => h9) rfl d_Mo_reduce_30 ?_
              refine lv_iload_n hx hb d_Mo_reduce_33 rfl (lv_at hl 4 rfl) ?_
              refine lv_lconst (v := lN 0) hx hb d_Mo_reduce_34 (by decide +kernel) ?_
              refine kv_lastN hx hb hK hP hD hS 1 0 rfl rfl (by omega) (by omega) d_Mo_reduce_35 (fun H locs hP hD hS => ?_)
              have hP : va_P (dC, dI) CL [(h0, .inr (11, [w0, w1, w2, w3, w4, w5, w6, w7, w8, .ref vv, .ref pr, .ref fd, w12, w13, w14, w15, w16, w17, w18, w19, w20, w21, w22, w23, w24, w25, w26, w27, w28, w29, w30, w31, w32, w33])), (pr, .inl (kp, 40, .inr (.inl (fun j9 => lN ((upN F8 k9 0) j9))))), (vv, .inl (kq, 11392, .inr (.inl (fun j9 => lN (Vf j9))))), (fd, .inl (kf, 576, .inr (.inl (fun j9 => lN (Gf j9)))))] H := hP
              have hD : va_D A [(h0, .inr (11, [w0, w1, w2, w3, w4, w5, w6, w7, w8, .ref vv, .ref pr, .ref fd, w12, w13, w14, w15, w16, w17, w18, w19, w20, w21, w22, w23, w24, w25, w26, w27, w28, w29, w30, w31, w32, w33])), (pr, .inl (kp, 40, .inr (.inl (fun j9 => lN ((upN F8 k9 0) j9))))), (vv, .inl (kq, 11392, .inr (.inl (fun j9 => lN (Vf j9))))), (fd, .inl (kf, 576, .inr (.inl (fun j9 => lN (Gf j9)))))] := hD
              obtain ⟨F7, eF7⟩ : ∃ z, z = upN F8 k9 0 := ⟨_, rfl⟩
              rw [← eF7] at hP hD
              have lb_56 : ∀ (n9 : Nat) (d9 : Nat) (mo7 : Nat) (F6 : Nat → Nat) (H : Heap) (locs : List Loc) (ls : Array Slot), (d9 ≤ 16) → (mo7 ≤ 1) → (mo7 = 1 → mo8 = 1 ∨ 0 < F8 k9) → (kr F7 F6 Gf (F8 k9) (288 * mm + 16 * (k9 - 16)) k9 d9) → (16 - d9 < n9) → va_P (dC, dI) CL [(h0, .inr (11, [w0, w1, w2, w3, w4, w5, w6, w7, w8, .ref vv, .ref pr, .ref fd, w12, w13, w14, w15, w16, w17, w18, w19, w20, w21, w22, w23, w24, w25, w26, w27, w28, w29, w30, w31, w32, w33])), (pr, .inl (kp, 40, .inr (.inl (fun j9 => lN (F6 j9))))), (vv, .inl (kq, 11392, .inr (.inl (fun j9 => lN (Vf j9))))), (fd, .inl (kf, 576, .inr (.inl (fun j9 => lN (Gf j9)))))] H → va_D A [(h0, .inr (11, [w0, w1, w2, w3, w4, w5, w6, w7, w8, .ref vv, .ref pr, .ref fd, w12, w13, w14, w15, w16, w17, w18, w19, w20, w21, w22, w23, w24, w25, w26, w27, w28, w29, w30, w31, w32, w33])), (pr, .inl (kp, 40, .inr (.inl (fun j9 => lN (F6 j9))))), (vv, .inl (kq, 11392, .inr (.inl (fun j9 => lN (Vf j9))))), (fd, .inl (kf, 576, .inr (.inl (fun j9 => lN (Gf j9)))))] → va_S A s.heap H locs → lv_has ls 8 [(0, .ref h0), (1, .int (nI mm)), (2, .int (nI mo7)), (3, .int (nI k9)), (4, .long (lN (F8 k9))), (6, .int (nI d9))] → W p l e ({ frames := 1, cells := 0, slots := 0, locals := 22 } : Room) s m ([.ref h0, .int (nI mm)] : List Value).toArray below meth c H locs 0 0 Qg (F0 m 56 ls []) := by
                intro n9
                induction n9 with
                | zero => intro d9 mo7 F6 H locs ls hd6 hmo7 hs7 hr6 hm9; exact absurd hm9 (Nat.not_lt_zero _)
                | succ n9 ih56 =>
                  intro d9 mo7 F6 H locs ls hd6 hmo7 hs7 hr6 hm56 hP hD hS hl
                  refine lv_iload hx hb d_Mo_reduce_56 (lv_at hl 5 rfl) ?_
                  refine lv_bipush (v := (nI 16)) hx hb d_Mo_reduce_58 (by decide +kernel) ?_
                  refine lv_icmp_ge (tgt := 110) hx hb d_Mo_reduce_60 (by decide) (fun c60 => ?_) (fun c60 => ?_)
                  · have c60 : 16 ≤ d9 := (nI_leI (by omega) (by omega)).mp c60
                    have hr7 : kr (upN F8 k9 0) F6 Gf (F8 k9) (288 * mm + 16 * (k9 - 16)) k9 d9 := by rw [← eF7]; exact hr6
                    have he7 := kr_end hk8 (by omega) (fun j hj => hG _ (by omega)) hr7 (by omega)
                    refine lv_iinc (v := (nI (k9 + 1))) (lv' := [(3, .int (nI (k9 + 1))), (0, .ref h0), (1, .int (nI mm)), (2, .int (nI mo7)), (4, .long (lN (F8 k9))), (6, .int (nI d9))]) hx hb d_Mo_reduce_110 hl (k := 3) rfl (k_inc _) (by decide) rfl (fun ls hl => ?_)
                    refine lv_goto (tgt := 15) hx hb d_Mo_reduce_113 (by decide) ?_
                    exact ih15  mo7 (k9 + 1) F6 _ _ _ (by omega) (by omega) (by omega) (kb_next hb8 hk8 hr7) (Nat.le_trans he7.1 hv8) (fun h => (hs7 h).elim (fun h1 => Nat.lt_of_le_of_lt he7.1 (hs8 h1)) (fun h1 => Nat.lt_of_lt_of_le (he7.2 h1) hv8)) (by omega) (hP.sub [0, 1, 2, 3] rfl) (hD.sub [0, 1, 2, 3] (by decide) rfl) hS (lv_sub hl [1, 2, 3, 0] rfl)
                  · have c60 : ¬ (16 ≤ d9) := fun h => c60 ((nI_leI (by omega) (by omega)).mpr h)
                    refine lv_lload hx hb d_Mo_reduce_63 (lv_at hl 4 rfl) ?_
                    refine lv_lconst (v := lN 0) hx hb d_Mo_reduce_65 (by decide +kernel) ?_
                    refine W.lcmp hx hb d_Mo_reduce_66 ?_
                    refine lv_if_eq (tgt := 110) hx hb d_Mo_reduce_67 (by decide) (fun c67 => ?_) (fun c67 => ?_)
                    · have c67 : (F8 k9) = 0 := (k_lceq (by first | decide | (have := hb8.2 k9 hk8 (by omega); omega)) (by first | decide | (have := hb8.2 k9 hk8 (by omega); omega))).mp c67
                      have hr7 : kr (upN F8 k9 0) F6 Gf (F8 k9) (288 * mm + 16 * (k9 - 16)) k9 d9 := by rw [← eF7]; exact hr6
                      have he7 := kr_end hk8 (by omega) (fun j hj => hG _ (by omega)) hr7 (by omega)
                      refine lv_iinc (v := (nI (k9 + 1))) (lv' := [(3, .int (nI (k9 + 1))), (0, .ref h0), (1, .int (nI mm)), (2, .int (nI mo7)), (4, .long (lN (F8 k9))), (6, .int (nI d9))]) hx hb d_Mo_reduce_110 hl (k := 3) rfl (k_inc _) (by decide) rfl (fun ls hl => ?_)
                      refine lv_goto (tgt := 15) hx hb d_Mo_reduce_113 (by decide) ?_
                      exact ih15  mo7 (k9 + 1) F6 _ _ _ (by omega) (by omega) (by omega) (kb_next hb8 hk8 hr7) (Nat.le_trans he7.1 hv8) (fun h => (hs7 h).elim (fun h1 => Nat.lt_of_le_of_lt he7.1 (hs8 h1)) (fun h1 => Nat.lt_of_lt_of_le (he7.2 h1) hv8)) (by omega) (hP.sub [0, 1, 2, 3] rfl) (hD.sub [0, 1, 2, 3] (by decide) rfl) hS (lv_sub hl [1, 2, 3, 0] rfl)
                    · have c67 : ¬ ((F8 k9) = 0) := fun h => c67 ((k_lceq (by first | decide | (have := hb8.2 k9 hk8 (by omega); omega)) (by first | decide | (have := hb8.2 k9 hk8 (by omega); omega))).mpr h)
                      refine lv_aload_n hx hb d_Mo_reduce_70 rfl (lv_at hl 0 rfl) ?_
                      refine va_get (D := (dC, dI)) (ci := 11) (v := .ref pr) (C := R_Mo) (T := F_Mo) (N := 34) hx hb hts i_Mo hown hK hP 0 rfl rfl 10 (by decide) (hts _ m_318) (fun _ h9 => h9) rfl d_Mo_reduce_71 ?_
                      refine lv_iload hx hb d_Mo_reduce_74 (lv_at hl 5 rfl) ?_
                      refine lv_dup2_11 hx hb d_Mo_reduce_76 rfl rfl ?_
                      refine kv_lald hx hb hK hP 1 0 rfl rfl (by omega) (by omega) d_Mo_reduce_77 ?_
                      refine kl (v := lN (F6 d9)) rfl ?_
                      refine lv_lload hx hb d_Mo_reduce_78 (lv_at hl 4 rfl) ?_
                      refine lv_aload_n hx hb d_Mo_reduce_80 rfl (lv_at hl 0 rfl) ?_
                      refine va_get (D := (dC, dI)) (ci := 11) (v := .ref fd) (C := R_Mo) (T := F_Mo) (N := 34) hx hb hts i_Mo hown hK hP 0 rfl rfl 11 (by decide) (hts _ m_329) (fun _ h9 => h9) rfl d_Mo_reduce_81 ?_
                      refine lv_sipush (v := (nI 288)) hx hb d_Mo_reduce_84 (by decide +kernel) ?_
                      refine lv_iload_n hx hb d_Mo_reduce_87 rfl (lv_at hl 1 rfl) ?_
                      refine lv_imul hx hb d_Mo_reduce_88 ?_
                      refine ki (v := nI (288 * mm)) (k_mul 288 mm rfl) ?_
                      refine lv_bipush (v := (nI 16)) hx hb d_Mo_reduce_89 (by decide +kernel) ?_
                      refine lv_iload_n hx hb d_Mo_reduce_91 rfl (lv_at hl 3 rfl) ?_
                      refine lv_bipush (v := (nI 16)) hx hb d_Mo_reduce_92 (by decide +kernel) ?_
                      refine lv_isub hx hb d_Mo_reduce_94 ?_
                      refine ki (v := nI (k9 - 16)) (pk_sub (by omega)) ?_
                      refine lv_imul hx hb d_Mo_reduce_95 ?_
                      refine ki (v := nI (16 * (k9 - 16))) (k_mul 16 (k9 - 16) rfl) ?_
                      refine lv_iadd hx hb d_Mo_reduce_96 ?_
                      refine ki (v := nI (288 * mm + (16 * (k9 - 16)))) (k_add (288 * mm) (16 * (k9 - 16)) rfl) ?_
                      refine lv_iload hx hb d_Mo_reduce_97 (lv_at hl 5 rfl) ?_
                      refine lv_iadd hx hb d_Mo_reduce_99 ?_
                      refine ki (v := nI (288 * mm + (16 * (k9 - 16)) + d9)) (k_add (288 * mm + (16 * (k9 - 16))) d9 rfl) ?_
                      refine kv_lald hx hb hK hP 3 2 rfl rfl (by omega) (by omega) d_Mo_reduce_100 ?_
                      refine kl (v := lN (Gf (288 * mm + (16 * (k9 - 16)) + d9))) rfl ?_
                      refine lv_lmul hx hb d_Mo_reduce_101 ?_
                      refine kl (v := lN ((F8 k9) * (Gf (288 * mm + (16 * (k9 - 16)) + d9)))) (lN_mul _ _) ?_
                      refine lv_ladd hx hb d_Mo_reduce_102 ?_
                      refine kl (v := lN (F6 d9 + ((F8 k9) * (Gf (288 * mm + (16 * (k9 - 16)) + d9))))) (k_ladd (F6 d9) ((F8 k9) * (Gf (288 * mm + (16 * (k9 - 16)) + d9))) rfl) ?_
                      refine kv_lastN hx hb hK hP hD hS 1 0 rfl rfl (by omega) (by omega) d_Mo_reduce_103 (fun H locs hP hD hS => ?_)
                      have hP : va_P (dC, dI) CL [(h0, .inr (11, [w0, w1, w2, w3, w4, w5, w6, w7, w8, .ref vv, .ref pr, .ref fd, w12, w13, w14, w15, w16, w17, w18, w19, w20, w21, w22, w23, w24, w25, w26, w27, w28, w29, w30, w31, w32, w33])), (pr, .inl (kp, 40, .inr (.inl (fun j9 => lN ((upN F6 d9 (F6 d9 + ((F8 k9) * (Gf (288 * mm + (16 * (k9 - 16)) + d9))))) j9))))), (vv, .inl (kq, 11392, .inr (.inl (fun j9 => lN (Vf j9))))), (fd, .inl (kf, 576, .inr (.inl (fun j9 => lN (Gf j9)))))] H := hP
                      have hD : va_D A [(h0, .inr (11, [w0, w1, w2, w3, w4, w5, w6, w7, w8, .ref vv, .ref pr, .ref fd, w12, w13, w14, w15, w16, w17, w18, w19, w20, w21, w22, w23, w24, w25, w26, w27, w28, w29, w30, w31, w32, w33])), (pr, .inl (kp, 40, .inr (.inl (fun j9 => lN ((upN F6 d9 (F6 d9 + ((F8 k9) * (Gf (288 * mm + (16 * (k9 - 16)) + d9))))) j9))))), (vv, .inl (kq, 11392, .inr (.inl (fun j9 => lN (Vf j9))))), (fd, .inl (kf, 576, .inr (.inl (fun j9 => lN (Gf j9)))))] := hD
                      obtain ⟨F5, eF5⟩ : ∃ z, z = upN F6 d9 (F6 d9 + ((F8 k9) * (Gf (288 * mm + (16 * (k9 - 16)) + d9)))) := ⟨_, rfl⟩
                      rw [← eF5] at hP hD
                      refine lv_iinc (v := (nI (d9 + 1))) (lv' := [(6, .int (nI (d9 + 1))), (0, .ref h0), (1, .int (nI mm)), (2, .int (nI mo7)), (3, .int (nI k9)), (4, .long (lN (F8 k9)))]) hx hb d_Mo_reduce_104 hl (k := 5) rfl (k_inc _) (by decide) rfl (fun ls hl => ?_)
                      refine lv_goto (tgt := 56) hx hb d_Mo_reduce_107 (by decide) ?_
                      exact ih56  (d9 + 1) mo7 F5 _ _ _ (by omega) (by omega) (by first | exact hs7 | exact (fun h => absurd h (by decide)) | exact (fun _ => Or.inl (by omega)) | exact (fun _ => Or.inr (by omega))) (by first | (subst eF5; exact kr_step (by rw [eF7]; exact kb_up hb8 hk8) (hb8.2 k9 hk8 (by omega)) (hG _ (by omega)) hr6 (by omega)) | exact kr_0 (by rw [eF7]; exact kb_up hb8 hk8)) (by omega) (hP.sub [0, 1, 2, 3] rfl) (hD.sub [0, 1, 2, 3] (by decide) rfl) hS (lv_sub hl [1, 2, 3, 4, 5, 0] rfl)
              refine lv_iload_n hx hb d_Mo_reduce_36 rfl (lv_at hl 3 rfl) ?_
              refine lv_if_ne (tgt := 47) hx hb d_Mo_reduce_37 (by decide) (fun c37 => ?_) (fun c37 => ?_)
              · have c37 : ¬ (mo8 = 0) := fun h => c37 ((nI_eq (by omega) (by decide)).mpr h)
                refine lv_iconst (v := (nI 1)) hx hb d_Mo_reduce_47 (by decide +kernel) ?_
                refine lv_goto (tgt := 52) hx hb d_Mo_reduce_48 (by decide) ?_
                refine lv_istore_n (lv' := [(2, .int (nI 1)), (4, .long (lN (F8 k9))), (0, .ref h0), (1, .int (nI mm)), (3, .int (nI k9))]) hx hb d_Mo_reduce_52 rfl hl (by decide) rfl (fun ls hl => ?_)
                refine lv_iconst (v := (nI 0)) hx hb d_Mo_reduce_53 (by decide +kernel) ?_
                refine lv_istore (lv' := [(6, .int (nI 0)), (2, .int (nI 1)), (4, .long (lN (F8 k9))), (0, .ref h0), (1, .int (nI mm)), (3, .int (nI k9))]) hx hb d_Mo_reduce_54 hl (by decide) rfl (fun ls hl => ?_)
                exact lb_56 (16 - 0 + 1) 0 1 F7 _ _ _ (by omega) (by omega) (by first | exact hs7 | exact (fun h => absurd h (by decide)) | exact (fun _ => Or.inl (by omega)) | exact (fun _ => Or.inr (by omega))) (by first | (subst eF5; exact kr_step (by rw [eF7]; exact kb_up hb8 hk8) (hb8.2 k9 hk8 (by omega)) (hG _ (by omega)) hr6 (by omega)) | exact kr_0 (by rw [eF7]; exact kb_up hb8 hk8)) (Nat.lt_succ_self _) (hP.sub [0, 1, 2, 3] rfl) (hD.sub [0, 1, 2, 3] (by decide) rfl) hS (lv_sub hl [3, 4, 1, 5, 2, 0] rfl)
              · have c37 : mo8 = 0 := (nI_eq (by omega) (by omega)).mp c37
                refine lv_lload hx hb d_Mo_reduce_40 (lv_at hl 0 rfl) ?_
                refine lv_lconst (v := lN 0) hx hb d_Mo_reduce_42 (by decide +kernel) ?_
                refine W.lcmp hx hb d_Mo_reduce_43 ?_
                refine lv_if_eq (tgt := 51) hx hb d_Mo_reduce_44 (by decide) (fun c44 => ?_) (fun c44 => ?_)
                · have c44 : (F8 k9) = 0 := (k_lceq (by first | decide | (have := hb8.2 k9 hk8 (by omega); omega)) (by first | decide | (have := hb8.2 k9 hk8 (by omega); omega))).mp c44
                  refine lv_iconst (v := (nI 0)) hx hb d_Mo_reduce_51 (by decide +kernel) ?_
                  refine lv_istore_n (lv' := [(2, .int (nI 0)), (4, .long (lN (F8 k9))), (0, .ref h0), (1, .int (nI mm)), (3, .int (nI k9))]) hx hb d_Mo_reduce_52 rfl hl (by decide) rfl (fun ls hl => ?_)
                  refine lv_iconst (v := (nI 0)) hx hb d_Mo_reduce_53 (by decide +kernel) ?_
                  refine lv_istore (lv' := [(6, .int (nI 0)), (2, .int (nI 0)), (4, .long (lN (F8 k9))), (0, .ref h0), (1, .int (nI mm)), (3, .int (nI k9))]) hx hb d_Mo_reduce_54 hl (by decide) rfl (fun ls hl => ?_)
                  exact lb_56 (16 - 0 + 1) 0 0 F7 _ _ _ (by omega) (by omega) (by first | exact hs7 | exact (fun h => absurd h (by decide)) | exact (fun _ => Or.inl (by omega)) | exact (fun _ => Or.inr (by omega))) (by first | (subst eF5; exact kr_step (by rw [eF7]; exact kb_up hb8 hk8) (hb8.2 k9 hk8 (by omega)) (hG _ (by omega)) hr6 (by omega)) | exact kr_0 (by rw [eF7]; exact kb_up hb8 hk8)) (Nat.lt_succ_self _) (hP.sub [0, 1, 2, 3] rfl) (hD.sub [0, 1, 2, 3] (by decide) rfl) hS (lv_sub hl [3, 4, 1, 5, 2, 0] rfl)
                · have c44 : ¬ ((F8 k9) = 0) := fun h => c44 ((k_lceq (by first | decide | (have := hb8.2 k9 hk8 (by omega); omega)) (by first | decide | (have := hb8.2 k9 hk8 (by omega); omega))).mpr h)
                  refine lv_iconst (v := (nI 1)) hx hb d_Mo_reduce_47 (by decide +kernel) ?_
                  refine lv_goto (tgt := 52) hx hb d_Mo_reduce_48 (by decide) ?_
                  refine lv_istore_n (lv' := [(2, .int (nI 1)), (4, .long (lN (F8 k9))), (0, .ref h0), (1, .int (nI mm)), (3, .int (nI k9))]) hx hb d_Mo_reduce_52 rfl hl (by decide) rfl (fun ls hl => ?_)
                  refine lv_iconst (v := (nI 0)) hx hb d_Mo_reduce_53 (by decide +kernel) ?_
                  refine lv_istore (lv' := [(6, .int (nI 0)), (2, .int (nI 1)), (4, .long (lN (F8 k9))), (0, .ref h0), (1, .int (nI mm)), (3, .int (nI k9))]) hx hb d_Mo_reduce_54 hl (by decide) rfl (fun ls hl => ?_)
                  exact lb_56 (16 - 0 + 1) 0 1 F7 _ _ _ (by omega) (by omega) (by first | exact hs7 | exact (fun h => absurd h (by decide)) | exact (fun _ => Or.inl (by omega)) | exact (fun _ => Or.inr (by omega))) (by first | (subst eF5; exact kr_step (by rw [eF7]; exact kb_up hb8 hk8) (hb8.2 k9 hk8 (by omega)) (hG _ (by omega)) hr6 (by omega)) | exact kr_0 (by rw [eF7]; exact kb_up hb8 hk8)) (Nat.lt_succ_self _) (hP.sub [0, 1, 2, 3] rfl) (hD.sub [0, 1, 2, 3] (by decide) rfl) hS (lv_sub hl [3, 4, 1, 5, 2, 0] rfl)
        exact lb_15 (34 - 16 + 1) 0 16 F9 _ _ _ (by omega) (by omega) (by omega) (kb_0 hb9) (Nat.le_refl _) (fun h => absurd h (by decide)) (Nat.lt_succ_self _) (hP.sub [0, 1, 2, 3] rfl) (hD.sub [0, 1, 2, 3] (by decide) rfl) hS (lv_sub hl [2, 3, 1, 0] rfl)
  exact lb_6 (2 * kv Z_1 0 40 + 1 + 1) 1 Z_1 _ _ _ (by omega) hb1 ht1 (Nat.lt_succ_self _) (hP.sub [2, 3, 0, 1] rfl) (hD.sub [2, 3, 0, 1] (by decide) rfl) hS (lv_sub hl [1, 2, 0] rfl)
