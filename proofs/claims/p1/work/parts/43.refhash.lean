-- ThresholdBenchModel.turned
set_option maxHeartbeats 4000000 in
set_option maxRecDepth 100000 in
theorem c_Mo_turned (l : Launch) (dC : Nat → ClassId) (dI : Nat → Nat → Nat) (x : Int32) (y : Int32) (sz : Nat)  : Met l y_Mo_turned (.code y_Mo_turned prog_14_method_26_code 2 (some .int) :: AW) ({ frames := 0, cells := 0, slots := 0, locals := 0 } : Room) (va_Pc [.int x, .int y] (pw (dC, dI) CL [] [] sz)) (va_Qi (fun (r : Int32) (u : Unit) => True) (fun (u : Unit) t => qw (dC, dI) CL (va_A [] sz) ((fun _ : Unit => []) u) ((fun _ : Unit => []) u) t) (va_A [] sz)) 0 0 (va_A [] sz) := by
  refine Met.ofW (cc := prog_14_method_26_code) (maxL := 2) (ret := (some .int)) (by decide) rfl ?_
  intro p e s m args below meth c s₁ B hml hv
  obtain ⟨rfl, hsz, hP, hK, hD0, hZ, hN⟩ := hv
  have hx := B.exec
  have hb := B.bytes
  have hr := B.returns
  have hts := kw (atoms_spec (ws := .code y_Mo_turned prog_14_method_26_code 2 (some .int) :: AW) B.pre)
  have hown : s.vm.findClass R_Mo = some m.cls := findClass_of_methodNamed B.named
  have hlocks := B.notSynchronized
  subst hsz
  have hD := hD0.self (sz := s.heap.size)
  obtain ⟨Qg, hQg⟩ : ∃ q, q = MQ below (va_Qi (fun (r : Int32) (u : Unit) => True) (fun (u : Unit) t => qw (dC, dI) CL (va_A [] s.heap.size) ((fun _ : Unit => []) u) ((fun _ : Unit => []) u) t) (va_A [] s.heap.size)) ([.int x, .int y] : List Value).toArray s 0 0 (va_A [] s.heap.size) := ⟨_, rfl⟩
  rw [← hQg]
  generalize hAe : va_A [] s.heap.size = A at hD hZ hQg
  have hA : ∀ q : Nat, s.heap.size ≤ q → A q := fun q h => by rw [← hAe]; exact Or.inr h
  have hS : va_S A s.heap s.heap [] := va_S.rf
  have hP : va_P (dC, dI) CL [] s.heap := hP
  have hl := lv_entry ([.int x, .int y]) (n := 2) (Nat.le_of_ble_eq_true rfl)
  rw [lg_entry_eq]
  generalize (lg_sl ([.int x, .int y]) ++ List.replicate (2 - (lg_sl ([.int x, .int y])).length) Slot.unset).toArray = ls at hl ⊢
  have hl : lv_has ls 2 [(0, .int x), (1, .int y)] := hl
  show W p l e ({ frames := 0, cells := 0, slots := 0, locals := 0 } : Room) s m ([.int x, .int y] : List Value).toArray below meth c s.heap [] 0 0 Qg (F0 m 0 ls [])
  refine lv_iload_n hx hb d_Mo_turned_0 rfl (lv_at hl 0 rfl) ?_
  refine lv_iload_n hx hb d_Mo_turned_1 rfl (lv_at hl 1 rfl) ?_
  refine lv_iushr hx hb d_Mo_turned_2 rfl ?_
  refine lv_topi (fun v_1 _ => ?_)
  refine lv_iload_n hx hb d_Mo_turned_3 rfl (lv_at hl 0 rfl) ?_
  refine lv_bipush (v := (nI 32)) hx hb d_Mo_turned_4 (by decide +kernel) ?_
  refine lv_iload_n hx hb d_Mo_turned_6 rfl (lv_at hl 1 rfl) ?_
  refine lv_isub hx hb d_Mo_turned_7 ?_
  refine lv_topi (fun v_2 _ => ?_)
  refine lv_ishl hx hb d_Mo_turned_8 ?_
  refine lv_topi (fun v_3 _ => ?_)
  refine lv_ior hx hb d_Mo_turned_9 ?_
  refine lv_topi (fun v_4 _ => ?_)
  have hP9 := hP.sub (ws' := []) [] rfl
  have hD9 := hD.sub (ws' := []) [] (by decide) rfl
  have hK9 := hK.sub (tys' := []) [] rfl
  rw [hQg]
  exact W.iret (v := v_4) hx hb hr (fun t ht hW => ⟨⟨v_4, (), rfl, trivial, by rw [ht]; exact hP9, va_K.moved hW.alike hK9, hD9⟩, hS.F ht⟩) hS.2.2 d_Mo_turned_10

-- ThresholdBenchModel.mix
set_option maxHeartbeats 4000000 in
set_option maxRecDepth 100000 in
theorem c_Mo_mix (l : Launch) (dC : Nat → ClassId) (dI : Nat → Nat → Nat) (h0 : Nat) (bl : Nat) (st : Nat) (rw : Nat) (sh : Nat) (rn : Nat) (kb : ClassId) (ks : ClassId) (kr : ClassId) (kh : ClassId) (kn : ClassId) (fb : Nat → Int32) (fs : Nat → Int32) (fr : Nat → Int32) (fh : Nat → Int32) (fn : Nat → Int32) (w1 : Value) (w2 : Value) (w3 : Value) (w4 : Value) (w5 : Value) (w6 : Value) (w7 : Value) (w8 : Value) (w9 : Value) (w10 : Value) (w11 : Value) (w12 : Value) (w13 : Value) (w14 : Value) (w15 : Value) (w16 : Value) (w17 : Value) (w18 : Value) (w19 : Value) (w20 : Value) (w21 : Value) (w22 : Value) (w23 : Value) (w26 : Value) (w27 : Value) (w30 : Value) (w31 : Value) (w32 : Value) (w33 : Value) (sz : Nat)  : Met l y_Mo_mix (.code y_Mo_mix prog_14_method_28_code 13 (none) :: AW) ({ frames := 1, cells := 0, slots := 0, locals := 21 } : Room) (va_Pc [.ref h0, .int (nI 0)] (pw (dC, dI) CL [(h0, .inr (11, [.ref rn, w1, w2, w3, w4, w5, w6, w7, w8, w9, w10, w11, w12, w13, w14, w15, w16, w17, w18, w19, w20, w21, w22, w23, .ref bl, .ref sh, w26, w27, .ref st, .ref rw, w30, w31, w32, w33])), (bl, .inl (kb, 1200, .inl fb)), (st, .inl (ks, 8, .inl fs)), (rw, .inl (kr, 64, .inl fr)), (sh, .inl (kh, 32, .inl fh)), (rn, .inl (kn, 64, .inl fn))] [(kb, .byte), (ks, .int), (kr, .int), (kh, .byte), (kn, .int)] sz)) (va_Qv (fun u : (Nat → Int32) × (Nat → Int32) => True) (fun (u : (Nat → Int32) × (Nat → Int32)) t => qw (dC, dI) CL (va_A [(h0, .inr (11, [.ref rn, w1, w2, w3, w4, w5, w6, w7, w8, w9, w10, w11, w12, w13, w14, w15, w16, w17, w18, w19, w20, w21, w22, w23, .ref bl, .ref sh, w26, w27, .ref st, .ref rw, w30, w31, w32, w33])), (bl, .inl (kb, 1200, .inl fb)), (st, .inl (ks, 8, .inl fs)), (rw, .inl (kr, 64, .inl fr)), (sh, .inl (kh, 32, .inl fh)), (rn, .inl (kn, 64, .inl fn))] sz) ((fun u : (Nat → Int32) × (Nat → Int32) => [(h0, .inr (11, [.ref rn, w1, w2, w3, w4, w5, w6, w7, w8, w9, w10, w11, w12, w13, w14, w15, w16, w17, w18, w19, w20, w21, w22, w23, .ref bl, .ref sh, w26, w27, .ref st, .ref rw, w30, w31, w32, w33])), (bl, .inl (kb, 1200, .inl fb)), (st, .inl (ks, 8, .inl u.1)), (rw, .inl (kr, 64, .inl u.2)), (sh, .inl (kh, 32, .inl fh)), (rn, .inl (kn, 64, .inl fn))]) u) ((fun u : (Nat → Int32) × (Nat → Int32) => []) u) t) (va_A [(h0, .inr (11, [.ref rn, w1, w2, w3, w4, w5, w6, w7, w8, w9, w10, w11, w12, w13, w14, w15, w16, w17, w18, w19, w20, w21, w22, w23, .ref bl, .ref sh, w26, w27, .ref st, .ref rw, w30, w31, w32, w33])), (bl, .inl (kb, 1200, .inl fb)), (st, .inl (ks, 8, .inl fs)), (rw, .inl (kr, 64, .inl fr)), (sh, .inl (kh, 32, .inl fh)), (rn, .inl (kn, 64, .inl fn))] sz)) 0 0 (va_A [(h0, .inr (11, [.ref rn, w1, w2, w3, w4, w5, w6, w7, w8, w9, w10, w11, w12, w13, w14, w15, w16, w17, w18, w19, w20, w21, w22, w23, .ref bl, .ref sh, w26, w27, .ref st, .ref rw, w30, w31, w32, w33])), (bl, .inl (kb, 1200, .inl fb)), (st, .inl (ks, 8, .inl fs)), (rw, .inl (kr, 64, .inl fr)), (sh, .inl (kh, 32, .inl fh)), (rn, .inl (kn, 64, .inl fn))] sz) := by
  refine Met.ofW (cc := prog_14_method_28_code) (maxL := 13) (ret := none) (by decide) rfl ?_
  intro p e s m args below meth c s₁ B hml hv
  obtain ⟨rfl, hsz, hP, hK, hD0, hZ, hN⟩ := hv
  have hx := B.exec
  have hb := B.bytes
  have hr := B.returns
  have hts := kw (atoms_spec (ws := .code y_Mo_mix prog_14_method_28_code 13 (none) :: AW) B.pre)
  have hown : s.vm.findClass R_Mo = some m.cls := findClass_of_methodNamed B.named
  have hlocks := B.notSynchronized
  subst hsz
  have hD := hD0.self (sz := s.heap.size)
  obtain ⟨Qg, hQg⟩ : ∃ q, q = MQ below (va_Qv (fun u : (Nat → Int32) × (Nat → Int32) => True) (fun (u : (Nat → Int32) × (Nat → Int32)) t => qw (dC, dI) CL (va_A [(h0, .inr (11, [.ref rn, w1, w2, w3, w4, w5, w6, w7, w8, w9, w10, w11, w12, w13, w14, w15, w16, w17, w18, w19, w20, w21, w22, w23, .ref bl, .ref sh, w26, w27, .ref st, .ref rw, w30, w31, w32, w33])), (bl, .inl (kb, 1200, .inl fb)), (st, .inl (ks, 8, .inl fs)), (rw, .inl (kr, 64, .inl fr)), (sh, .inl (kh, 32, .inl fh)), (rn, .inl (kn, 64, .inl fn))] s.heap.size) ((fun u : (Nat → Int32) × (Nat → Int32) => [(h0, .inr (11, [.ref rn, w1, w2, w3, w4, w5, w6, w7, w8, w9, w10, w11, w12, w13, w14, w15, w16, w17, w18, w19, w20, w21, w22, w23, .ref bl, .ref sh, w26, w27, .ref st, .ref rw, w30, w31, w32, w33])), (bl, .inl (kb, 1200, .inl fb)), (st, .inl (ks, 8, .inl u.1)), (rw, .inl (kr, 64, .inl u.2)), (sh, .inl (kh, 32, .inl fh)), (rn, .inl (kn, 64, .inl fn))]) u) ((fun u : (Nat → Int32) × (Nat → Int32) => []) u) t) (va_A [(h0, .inr (11, [.ref rn, w1, w2, w3, w4, w5, w6, w7, w8, w9, w10, w11, w12, w13, w14, w15, w16, w17, w18, w19, w20, w21, w22, w23, .ref bl, .ref sh, w26, w27, .ref st, .ref rw, w30, w31, w32, w33])), (bl, .inl (kb, 1200, .inl fb)), (st, .inl (ks, 8, .inl fs)), (rw, .inl (kr, 64, .inl fr)), (sh, .inl (kh, 32, .inl fh)), (rn, .inl (kn, 64, .inl fn))] s.heap.size)) ([.ref h0, .int (nI 0)] : List Value).toArray s 0 0 (va_A [(h0, .inr (11, [.ref rn, w1, w2, w3, w4, w5, w6, w7, w8, w9, w10, w11, w12, w13, w14, w15, w16, w17, w18, w19, w20, w21, w22, w23, .ref bl, .ref sh, w26, w27, .ref st, .ref rw, w30, w31, w32, w33])), (bl, .inl (kb, 1200, .inl fb)), (st, .inl (ks, 8, .inl fs)), (rw, .inl (kr, 64, .inl fr)), (sh, .inl (kh, 32, .inl fh)), (rn, .inl (kn, 64, .inl fn))] s.heap.size) := ⟨_, rfl⟩
  rw [← hQg]
  generalize hAe : va_A [(h0, .inr (11, [.ref rn, w1, w2, w3, w4, w5, w6, w7, w8, w9, w10, w11, w12, w13, w14, w15, w16, w17, w18, w19, w20, w21, w22, w23, .ref bl, .ref sh, w26, w27, .ref st, .ref rw, w30, w31, w32, w33])), (bl, .inl (kb, 1200, .inl fb)), (st, .inl (ks, 8, .inl fs)), (rw, .inl (kr, 64, .inl fr)), (sh, .inl (kh, 32, .inl fh)), (rn, .inl (kn, 64, .inl fn))] s.heap.size = A at hD hZ hQg
  have hA : ∀ q : Nat, s.heap.size ≤ q → A q := fun q h => by rw [← hAe]; exact Or.inr h
  have hS : va_S A s.heap s.heap [] := va_S.rf
  have hP : va_P (dC, dI) CL [(h0, .inr (11, [.ref rn, w1, w2, w3, w4, w5, w6, w7, w8, w9, w10, w11, w12, w13, w14, w15, w16, w17, w18, w19, w20, w21, w22, w23, .ref bl, .ref sh, w26, w27, .ref st, .ref rw, w30, w31, w32, w33])), (bl, .inl (kb, 1200, .inl fb)), (st, .inl (ks, 8, .inl fs)), (rw, .inl (kr, 64, .inl fr)), (sh, .inl (kh, 32, .inl fh)), (rn, .inl (kn, 64, .inl fn))] s.heap := hP
  have hl := lv_entry ([.ref h0, .int (nI 0)]) (n := 13) (Nat.le_of_ble_eq_true rfl)
  rw [lg_entry_eq]
  generalize (lg_sl ([.ref h0, .int (nI 0)]) ++ List.replicate (13 - (lg_sl ([.ref h0, .int (nI 0)])).length) Slot.unset).toArray = ls at hl ⊢
  have hl : lv_has ls 13 [(0, .ref h0), (1, .int (nI 0))] := hl
  show W p l e ({ frames := 1, cells := 0, slots := 0, locals := 21 } : Room) s m ([.ref h0, .int (nI 0)] : List Value).toArray below meth c s.heap [] 0 0 Qg (F0 m 0 ls [])
  refine lv_iconst (v := (nI 0)) hx hb d_Mo_mix_0 (by decide +kernel) ?_
  refine lv_istore_n (lv' := [(2, .int (nI 0)), (0, .ref h0), (1, .int (nI 0))]) hx hb d_Mo_mix_1 rfl hl (by decide) rfl (fun ls hl => ?_)
  have lb_2 : ∀ (n9 : Nat) (i9 : Nat) (r9 : Nat → Int32) (H : Heap) (locs : List Loc) (ls : Array Slot), (i9 ≤ 64) → (64 - i9 < n9) → va_P (dC, dI) CL [(h0, .inr (11, [.ref rn, w1, w2, w3, w4, w5, w6, w7, w8, w9, w10, w11, w12, w13, w14, w15, w16, w17, w18, w19, w20, w21, w22, w23, .ref bl, .ref sh, w26, w27, .ref st, .ref rw, w30, w31, w32, w33])), (bl, .inl (kb, 1200, .inl fb)), (st, .inl (ks, 8, .inl fs)), (rw, .inl (kr, 64, .inl r9)), (sh, .inl (kh, 32, .inl fh)), (rn, .inl (kn, 64, .inl fn))] H → va_D A [(h0, .inr (11, [.ref rn, w1, w2, w3, w4, w5, w6, w7, w8, w9, w10, w11, w12, w13, w14, w15, w16, w17, w18, w19, w20, w21, w22, w23, .ref bl, .ref sh, w26, w27, .ref st, .ref rw, w30, w31, w32, w33])), (bl, .inl (kb, 1200, .inl fb)), (st, .inl (ks, 8, .inl fs)), (rw, .inl (kr, 64, .inl r9)), (sh, .inl (kh, 32, .inl fh)), (rn, .inl (kn, 64, .inl fn))] → va_S A s.heap H locs → lv_has ls 13 [(0, .ref h0), (1, .int (nI 0)), (2, .int (nI i9))] → W p l e ({ frames := 1, cells := 0, slots := 0, locals := 21 } : Room) s m ([.ref h0, .int (nI 0)] : List Value).toArray below meth c H locs 0 0 Qg (F0 m 2 ls []) := by
    intro n9
    induction n9 with
    | zero => intro i9 r9 H locs ls hi9 hm9; exact absurd hm9 (Nat.not_lt_zero _)
    | succ n9 ih2 =>
      intro i9 r9 H locs ls hi9 hm2 hP hD hS hl
      refine lv_iload_n hx hb d_Mo_mix_2 rfl (lv_at hl 2 rfl) ?_
      refine lv_bipush (v := (nI 64)) hx hb d_Mo_mix_3 (by decide +kernel) ?_
      refine lv_icmp_ge (tgt := 184) hx hb d_Mo_mix_5 (by decide) (fun c5 => ?_) (fun c5 => ?_)
      · have c5 : 64 ≤ i9 := (nI_leI (by omega) (by omega)).mp c5
        refine lv_aload_n hx hb d_Mo_mix_184 rfl (lv_at hl 0 rfl) ?_
        refine va_get (D := (dC, dI)) (ci := 11) (v := .ref st) (C := R_Mo) (T := F_Mo) (N := 34) hx hb hts i_Mo hown hK hP 0 rfl rfl 28 (by decide) (hts _ m_282) (fun _ h9 => h9) rfl d_Mo_mix_185 ?_
        refine lv_iconst (v := (nI 0)) hx hb d_Mo_mix_188 (by decide +kernel) ?_
        refine kv_iald hx hb hK hP 2 1 rfl rfl (by omega) (by omega) d_Mo_mix_189 ?_
        refine lv_topi (fun v_1 _ => ?_)
        refine lv_istore_n (lv' := [(2, .int v_1), (0, .ref h0), (1, .int (nI 0))]) hx hb d_Mo_mix_190 rfl hl (by decide) rfl (fun ls hl => ?_)
        refine lv_aload_n hx hb d_Mo_mix_191 rfl (lv_at hl 1 rfl) ?_
        refine va_get (D := (dC, dI)) (ci := 11) (v := .ref st) (C := R_Mo) (T := F_Mo) (N := 34) hx hb hts i_Mo hown hK hP 0 rfl rfl 28 (by decide) (hts _ m_282) (fun _ h9 => h9) rfl d_Mo_mix_192 ?_
        refine lv_iconst (v := (nI 1)) hx hb d_Mo_mix_195 (by decide +kernel) ?_
        refine kv_iald hx hb hK hP 2 1 rfl rfl (by omega) (by omega) d_Mo_mix_196 ?_
        refine lv_topi (fun v_2 _ => ?_)
        refine lv_istore_n (lv' := [(3, .int v_2), (2, .int v_1), (0, .ref h0), (1, .int (nI 0))]) hx hb d_Mo_mix_197 rfl hl (by decide) rfl (fun ls hl => ?_)
        refine lv_aload_n hx hb d_Mo_mix_198 rfl (lv_at hl 2 rfl) ?_
        refine va_get (D := (dC, dI)) (ci := 11) (v := .ref st) (C := R_Mo) (T := F_Mo) (N := 34) hx hb hts i_Mo hown hK hP 0 rfl rfl 28 (by decide) (hts _ m_282) (fun _ h9 => h9) rfl d_Mo_mix_199 ?_
        refine lv_iconst (v := (nI 2)) hx hb d_Mo_mix_202 (by decide +kernel) ?_
        refine kv_iald hx hb hK hP 2 1 rfl rfl (by omega) (by omega) d_Mo_mix_203 ?_
        refine lv_topi (fun v_3 _ => ?_)
        refine lv_istore (lv' := [(4, .int v_3), (3, .int v_2), (2, .int v_1), (0, .ref h0), (1, .int (nI 0))]) hx hb d_Mo_mix_204 hl (by decide) rfl (fun ls hl => ?_)
        refine lv_aload_n hx hb d_Mo_mix_206 rfl (lv_at hl 3 rfl) ?_
        refine va_get (D := (dC, dI)) (ci := 11) (v := .ref st) (C := R_Mo) (T := F_Mo) (N := 34) hx hb hts i_Mo hown hK hP 0 rfl rfl 28 (by decide) (hts _ m_282) (fun _ h9 => h9) rfl d_Mo_mix_207 ?_
        refine lv_iconst (v := (nI 3)) hx hb d_Mo_mix_210 (by decide +kernel) ?_
        refine kv_iald hx hb hK hP 2 1 rfl rfl (by omega) (by omega) d_Mo_mix_211 ?_
        refine lv_topi (fun v_4 _ => ?_)
        refine lv_istore (lv' := [(5, .int v_4), (4, .int v_3), (3, .int v_2), (2, .int v_1), (0, .ref h0), (1, .int (nI 0))]) hx hb d_Mo_mix_212 hl (by decide) rfl (fun ls hl => ?_)
        refine lv_aload_n hx hb d_Mo_mix_214 rfl (lv_at hl 4 rfl) ?_
        refine va_get (D := (dC, dI)) (ci := 11) (v := .ref st) (C := R_Mo) (T := F_Mo) (N := 34) hx hb hts i_Mo hown hK hP 0 rfl rfl 28 (by decide) (hts _ m_282) (fun _ h9 => h9) rfl d_Mo_mix_215 ?_
        refine lv_iconst (v := (nI 4)) hx hb d_Mo_mix_218 (by decide +kernel) ?_
        refine kv_iald hx hb hK hP 2 1 rfl rfl (by omega) (by omega) d_Mo_mix_219 ?_
        refine lv_topi (fun v_5 _ => ?_)
        refine lv_istore (lv' := [(6, .int v_5), (5, .int v_4), (4, .int v_3), (3, .int v_2), (2, .int v_1), (0, .ref h0), (1, .int (nI 0))]) hx hb d_Mo_mix_220 hl (by decide) rfl (fun ls hl => ?_)
        refine lv_aload_n hx hb d_Mo_mix_222 rfl (lv_at hl 5 rfl) ?_
        refine va_get (D := (dC, dI)) (ci := 11) (v := .ref st) (C := R_Mo) (T := F_Mo) (N := 34) hx hb hts i_Mo hown hK hP 0 rfl rfl 28 (by decide) (hts _ m_282) (fun _ h9 => h9) rfl d_Mo_mix_223 ?_
        refine lv_iconst (v := (nI 5)) hx hb d_Mo_mix_226 (by decide +kernel) ?_
        refine kv_iald hx hb hK hP 2 1 rfl rfl (by omega) (by omega) d_Mo_mix_227 ?_
        refine lv_topi (fun v_6 _ => ?_)
        refine lv_istore (lv' := [(7, .int v_6), (6, .int v_5), (5, .int v_4), (4, .int v_3), (3, .int v_2), (2, .int v_1), (0, .ref h0), (1, .int (nI 0))]) hx hb d_Mo_mix_228 hl (by decide) rfl (fun ls hl => ?_)
        refine lv_aload_n hx hb d_Mo_mix_230 rfl (lv_at hl 6 rfl) ?_
        refine va_get (D := (dC, dI)) (ci := 11) (v := .ref st) (C := R_Mo) (T := F_Mo) (N := 34) hx hb hts i_Mo hown hK hP 0 rfl rfl 28 (by decide) (hts _ m_282) (fun _ h9 => h9) rfl d_Mo_mix_231 ?_
        refine lv_bipush (v := (nI 6)) hx hb d_Mo_mix_234 (by decide +kernel) ?_
        refine kv_iald hx hb hK hP 2 1 rfl rfl (by omega) (by omega) d_Mo_mix_236 ?_
        refine lv_topi (fun v_7 _ => ?_)
        refine lv_istore (lv' := [(8, .int v_7), (7, .int v_6), (6, .int v_5), (5, .int v_4), (4, .int v_3), (3, .int v_2), (2, .int v_1), (0, .ref h0), (1, .int (nI 0))]) hx hb d_Mo_mix_237 hl (by decide) rfl (fun ls hl => ?_)
        refine lv_aload_n hx hb d_Mo_mix_239 rfl (lv_at hl 7 rfl) ?_
        refine va_get (D := (dC, dI)) (ci := 11) (v := .ref st) (C := R_Mo) (T := F_Mo) (N := 34) hx hb hts i_Mo hown hK hP 0 rfl rfl 28 (by decide) (hts _ m_282) (fun _ h9 => h9) rfl d_Mo_mix_240 ?_
        refine lv_bipush (v := (nI 7)) hx hb d_Mo_mix_243 (by decide +kernel) ?_
        refine kv_iald hx hb hK hP 2 1 rfl rfl (by omega) (by omega) d_Mo_mix_245 ?_
        refine lv_topi (fun v_8 _ => ?_)
        refine lv_istore (lv' := [(9, .int v_8), (8, .int v_7), (7, .int v_6), (6, .int v_5), (5, .int v_4), (4, .int v_3), (3, .int v_2), (2, .int v_1), (0, .ref h0), (1, .int (nI 0))]) hx hb d_Mo_mix_246 hl (by decide) rfl (fun ls hl => ?_)
        refine lv_iconst (v := (nI 0)) hx hb d_Mo_mix_248 (by decide +kernel) ?_
        refine lv_istore (lv' := [(10, .int (nI 0)), (9, .int v_8), (8, .int v_7), (7, .int v_6), (6, .int v_5), (5, .int v_4), (4, .int v_3), (3, .int v_2), (2, .int v_1), (0, .ref h0), (1, .int (nI 0))]) hx hb d_Mo_mix_249 hl (by decide) rfl (fun ls hl => ?_)
        have lb_251 : ∀ (n9 : Nat) (j9 : Nat) (y2 : Int32) (y3 : Int32) (y4 : Int32) (y5 : Int32) (y6 : Int32) (y7 : Int32) (y8 : Int32) (y9 : Int32) (H : Heap) (locs : List Loc) (ls : Array Slot), (j9 ≤ 64) → (64 - j9 < n9) → va_P (dC, dI) CL [(h0, .inr (11, [.ref rn, w1, w2, w3, w4, w5, w6, w7, w8, w9, w10, w11, w12, w13, w14, w15, w16, w17, w18, w19, w20, w21, w22, w23, .ref bl, .ref sh, w26, w27, .ref st, .ref rw, w30, w31, w32, w33])), (bl, .inl (kb, 1200, .inl fb)), (st, .inl (ks, 8, .inl fs)), (rw, .inl (kr, 64, .inl r9)), (sh, .inl (kh, 32, .inl fh)), (rn, .inl (kn, 64, .inl fn))] H → va_D A [(h0, .inr (11, [.ref rn, w1, w2, w3, w4, w5, w6, w7, w8, w9, w10, w11, w12, w13, w14, w15, w16, w17, w18, w19, w20, w21, w22, w23, .ref bl, .ref sh, w26, w27, .ref st, .ref rw, w30, w31, w32, w33])), (bl, .inl (kb, 1200, .inl fb)), (st, .inl (ks, 8, .inl fs)), (rw, .inl (kr, 64, .inl r9)), (sh, .inl (kh, 32, .inl fh)), (rn, .inl (kn, 64, .inl fn))] → va_S A s.heap H locs → lv_has ls 13 [(0, .ref h0), (2, .int y2), (3, .int y3), (4, .int y4), (5, .int y5), (6, .int y6), (7, .int y7), (8, .int y8), (9, .int y9), (10, .int (nI j9))] → W p l e ({ frames := 1, cells := 0, slots := 0, locals := 21 } : Room) s m ([.ref h0, .int (nI 0)] : List Value).toArray below meth c H locs 0 0 Qg (F0 m 251 ls []) := by
          intro n9
          induction n9 with
          | zero => intro j9 y2 y3 y4 y5 y6 y7 y8 y9 H locs ls hj9 hm9; exact absurd hm9 (Nat.not_lt_zero _)
          | succ n9 ih251 =>
            intro j9 y2 y3 y4 y5 y6 y7 y8 y9 H locs ls hj9 hm251 hP hD hS hl
            refine lv_iload hx hb d_Mo_mix_251 (lv_at hl 9 rfl) ?_
            refine lv_bipush (v := (nI 64)) hx hb d_Mo_mix_253 (by decide +kernel) ?_
            refine lv_icmp_ge (tgt := 391) hx hb d_Mo_mix_255 (by decide) (fun c255 => ?_) (fun c255 => ?_)
            · have c255 : 64 ≤ j9 := (nI_leI (by omega) (by omega)).mp c255
              refine lv_aload_n hx hb d_Mo_mix_391 rfl (lv_at hl 0 rfl) ?_
              refine va_get (D := (dC, dI)) (ci := 11) (v := .ref st) (C := R_Mo) (T := F_Mo) (N := 34) hx hb hts i_Mo hown hK hP 0 rfl rfl 28 (by decide) (hts _ m_282) (fun _ h9 => h9) rfl d_Mo_mix_392 ?_
              refine lv_iconst (v := (nI 0)) hx hb d_Mo_mix_395 (by decide +kernel) ?_
              refine lv_dup2_11 hx hb d_Mo_mix_396 rfl rfl ?_
              refine kv_iald hx hb hK hP 2 1 rfl rfl (by omega) (by omega) d_Mo_mix_397 ?_
              refine lv_topi (fun v_9 _ => ?_)
              refine lv_iload_n hx hb d_Mo_mix_398 rfl (lv_at hl 1 rfl) ?_
              refine lv_iadd hx hb d_Mo_mix_399 ?_
              refine lv_topi (fun v_10 _ => ?_)
              refine kv_iast hx hb hK hP hD hS 2 1 rfl rfl (by omega) (by omega) d_Mo_mix_400 (fun H locs g_11 _ hP hD hS => ?_)
              have hP : va_P (dC, dI) CL [(h0, .inr (11, [.ref rn, w1, w2, w3, w4, w5, w6, w7, w8, w9, w10, w11, w12, w13, w14, w15, w16, w17, w18, w19, w20, w21, w22, w23, .ref bl, .ref sh, w26, w27, .ref st, .ref rw, w30, w31, w32, w33])), (bl, .inl (kb, 1200, .inl fb)), (st, .inl (ks, 8, .inl g_11)), (rw, .inl (kr, 64, .inl r9)), (sh, .inl (kh, 32, .inl fh)), (rn, .inl (kn, 64, .inl fn))] H := hP
              have hD : va_D A [(h0, .inr (11, [.ref rn, w1, w2, w3, w4, w5, w6, w7, w8, w9, w10, w11, w12, w13, w14, w15, w16, w17, w18, w19, w20, w21, w22, w23, .ref bl, .ref sh, w26, w27, .ref st, .ref rw, w30, w31, w32, w33])), (bl, .inl (kb, 1200, .inl fb)), (st, .inl (ks, 8, .inl g_11)), (rw, .inl (kr, 64, .inl r9)), (sh, .inl (kh, 32, .inl fh)), (rn, .inl (kn, 64, .inl fn))] := hD
              refine lv_aload_n hx hb d_Mo_mix_401 rfl (lv_at hl 0 rfl) ?_
              refine va_get (D := (dC, dI)) (ci := 11) (v := .ref st) (C := R_Mo) (T := F_Mo) (N := 34) hx hb hts i_Mo hown hK hP 0 rfl rfl 28 (by decide) (hts _ m_282) (fun _ h9 => h9) rfl d_Mo_mix_402 ?_
              refine lv_iconst (v := (nI 1)) hx hb d_Mo_mix_405 (by decide +kernel) ?_
              refine lv_dup2_11 hx hb d_Mo_mix_406 rfl rfl ?_
              refine kv_iald hx hb hK hP 2 1 rfl rfl (by omega) (by omega) d_Mo_mix_407 ?_
              refine lv_topi (fun v_12 _ => ?_)
              refine lv_iload_n hx hb d_Mo_mix_408 rfl (lv_at hl 2 rfl) ?_
              refine lv_iadd hx hb d_Mo_mix_409 ?_
              refine lv_topi (fun v_13 _ => ?_)
              refine kv_iast hx hb hK hP hD hS 2 1 rfl rfl (by omega) (by omega) d_Mo_mix_410 (fun H locs g_14 _ hP hD hS => ?_)
              have hP : va_P (dC, dI) CL [(h0, .inr (11, [.ref rn, w1, w2, w3, w4, w5, w6, w7, w8, w9, w10, w11, w12, w13, w14, w15, w16, w17, w18, w19, w20, w21, w22, w23, .ref bl, .ref sh, w26, w27, .ref st, .ref rw, w30, w31, w32, w33])), (bl, .inl (kb, 1200, .inl fb)), (st, .inl (ks, 8, .inl g_14)), (rw, .inl (kr, 64, .inl r9)), (sh, .inl (kh, 32, .inl fh)), (rn, .inl (kn, 64, .inl fn))] H := hP
              have hD : va_D A [(h0, .inr (11, [.ref rn, w1, w2, w3, w4, w5, w6, w7, w8, w9, w10, w11, w12, w13, w14, w15, w16, w17, w18, w19, w20, w21, w22, w23, .ref bl, .ref sh, w26, w27, .ref st, .ref rw, w30, w31, w32, w33])), (bl, .inl (kb, 1200, .inl fb)), (st, .inl (ks, 8, .inl g_14)), (rw, .inl (kr, 64, .inl r9)), (sh, .inl (kh, 32, .inl fh)), (rn, .inl (kn, 64, .inl fn))] := hD
              refine lv_aload_n hx hb d_Mo_mix_411 rfl (lv_at hl 0 rfl) ?_
              refine va_get (D := (dC, dI)) (ci := 11) (v := .ref st) (C := R_Mo) (T := F_Mo) (N := 34) hx hb hts i_Mo hown hK hP 0 rfl rfl 28 (by decide) (hts _ m_282) (fun _ h9 => h9) rfl d_Mo_mix_412 ?_
              refine lv_iconst (v := (nI 2)) hx hb d_Mo_mix_415 (by decide +kernel) ?_
              refine lv_dup2_11 hx hb d_Mo_mix_416 rfl rfl ?_
              refine kv_iald hx hb hK hP 2 1 rfl rfl (by omega) (by omega) d_Mo_mix_417 ?_
              refine lv_topi (fun v_15 _ => ?_)
              refine lv_iload hx hb d_Mo_mix_418 (lv_at hl 3 rfl) ?_
              refine lv_iadd hx hb d_Mo_mix_420 ?_
              refine lv_topi (fun v_16 _ => ?_)
              refine kv_iast hx hb hK hP hD hS 2 1 rfl rfl (by omega) (by omega) d_Mo_mix_421 (fun H locs g_17 _ hP hD hS => ?_)
              have hP : va_P (dC, dI) CL [(h0, .inr (11, [.ref rn, w1, w2, w3, w4, w5, w6, w7, w8, w9, w10, w11, w12, w13, w14, w15, w16, w17, w18, w19, w20, w21, w22, w23, .ref bl, .ref sh, w26, w27, .ref st, .ref rw, w30, w31, w32, w33])), (bl, .inl (kb, 1200, .inl fb)), (st, .inl (ks, 8, .inl g_17)), (rw, .inl (kr, 64, .inl r9)), (sh, .inl (kh, 32, .inl fh)), (rn, .inl (kn, 64, .inl fn))] H := hP
              have hD : va_D A [(h0, .inr (11, [.ref rn, w1, w2, w3, w4, w5, w6, w7, w8, w9, w10, w11, w12, w13, w14, w15, w16, w17, w18, w19, w20, w21, w22, w23, .ref bl, .ref sh, w26, w27, .ref st, .ref rw, w30, w31, w32, w33])), (bl, .inl (kb, 1200, .inl fb)), (st, .inl (ks, 8, .inl g_17)), (rw, .inl (kr, 64, .inl r9)), (sh, .inl (kh, 32, .inl fh)), (rn, .inl (kn, 64, .inl fn))] := hD
              refine lv_aload_n hx hb d_Mo_mix_422 rfl (lv_at hl 0 rfl) ?_
              refine va_get (D := (dC, dI)) (ci := 11) (v := .ref st) (C := R_Mo) (T := F_Mo) (N := 34) hx hb hts i_Mo hown hK hP 0 rfl rfl 28 (by decide) (hts _ m_282) (fun _ h9 => h9) rfl d_Mo_mix_423 ?_
              refine lv_iconst (v := (nI 3)) hx hb d_Mo_mix_426 (by decide +kernel) ?_
              refine lv_dup2_11 hx hb d_Mo_mix_427 rfl rfl ?_
              refine kv_iald hx hb hK hP 2 1 rfl rfl (by omega) (by omega) d_Mo_mix_428 ?_
              refine lv_topi (fun v_18 _ => ?_)
              refine lv_iload hx hb d_Mo_mix_429 (lv_at hl 4 rfl) ?_
              refine lv_iadd hx hb d_Mo_mix_431 ?_
              refine lv_topi (fun v_19 _ => ?_)
              refine kv_iast hx hb hK hP hD hS 2 1 rfl rfl (by omega) (by omega) d_Mo_mix_432 (fun H locs g_20 _ hP hD hS => ?_)
              have hP : va_P (dC, dI) CL [(h0, .inr (11, [.ref rn, w1, w2, w3, w4, w5, w6, w7, w8, w9, w10, w11, w12, w13, w14, w15, w16, w17, w18, w19, w20, w21, w22, w23, .ref bl, .ref sh, w26, w27, .ref st, .ref rw, w30, w31, w32, w33])), (bl, .inl (kb, 1200, .inl fb)), (st, .inl (ks, 8, .inl g_20)), (rw, .inl (kr, 64, .inl r9)), (sh, .inl (kh, 32, .inl fh)), (rn, .inl (kn, 64, .inl fn))] H := hP
              have hD : va_D A [(h0, .inr (11, [.ref rn, w1, w2, w3, w4, w5, w6, w7, w8, w9, w10, w11, w12, w13, w14, w15, w16, w17, w18, w19, w20, w21, w22, w23, .ref bl, .ref sh, w26, w27, .ref st, .ref rw, w30, w31, w32, w33])), (bl, .inl (kb, 1200, .inl fb)), (st, .inl (ks, 8, .inl g_20)), (rw, .inl (kr, 64, .inl r9)), (sh, .inl (kh, 32, .inl fh)), (rn, .inl (kn, 64, .inl fn))] := hD
              refine lv_aload_n hx hb d_Mo_mix_433 rfl (lv_at hl 0 rfl) ?_
              refine va_get (D := (dC, dI)) (ci := 11) (v := .ref st) (C := R_Mo) (T := F_Mo) (N := 34) hx hb hts i_Mo hown hK hP 0 rfl rfl 28 (by decide) (hts _ m_282) (fun _ h9 => h9) rfl d_Mo_mix_434 ?_
              refine lv_iconst (v := (nI 4)) hx hb d_Mo_mix_437 (by decide +kernel) ?_
              refine lv_dup2_11 hx hb d_Mo_mix_438 rfl rfl ?_
              refine kv_iald hx hb hK hP 2 1 rfl rfl (by omega) (by omega) d_Mo_mix_439 ?_
              refine lv_topi (fun v_21 _ => ?_)
              refine lv_iload hx hb d_Mo_mix_440 (lv_at hl 5 rfl) ?_
              refine lv_iadd hx hb d_Mo_mix_442 ?_
              refine lv_topi (fun v_22 _ => ?_)
              refine kv_iast hx hb hK hP hD hS 2 1 rfl rfl (by omega) (by omega) d_Mo_mix_443 (fun H locs g_23 _ hP hD hS => ?_)
              have hP : va_P (dC, dI) CL [(h0, .inr (11, [.ref rn, w1, w2, w3, w4, w5, w6, w7, w8, w9, w10, w11, w12, w13, w14, w15, w16, w17, w18, w19, w20, w21, w22, w23, .ref bl, .ref sh, w26, w27, .ref st, .ref rw, w30, w31, w32, w33])), (bl, .inl (kb, 1200, .inl fb)), (st, .inl (ks, 8, .inl g_23)), (rw, .inl (kr, 64, .inl r9)), (sh, .inl (kh, 32, .inl fh)), (rn, .inl (kn, 64, .inl fn))] H := hP
              have hD : va_D A [(h0, .inr (11, [.ref rn, w1, w2, w3, w4, w5, w6, w7, w8, w9, w10, w11, w12, w13, w14, w15, w16, w17, w18, w19, w20, w21, w22, w23, .ref bl, .ref sh, w26, w27, .ref st, .ref rw, w30, w31, w32, w33])), (bl, .inl (kb, 1200, .inl fb)), (st, .inl (ks, 8, .inl g_23)), (rw, .inl (kr, 64, .inl r9)), (sh, .inl (kh, 32, .inl fh)), (rn, .inl (kn, 64, .inl fn))] := hD
              refine lv_aload_n hx hb d_Mo_mix_444 rfl (lv_at hl 0 rfl) ?_
              refine va_get (D := (dC, dI)) (ci := 11) (v := .ref st) (C := R_Mo) (T := F_Mo) (N := 34) hx hb hts i_Mo hown hK hP 0 rfl rfl 28 (by decide) (hts _ m_282) (fun _ h9 => h9) rfl d_Mo_mix_445 ?_
              refine lv_iconst (v := (nI 5)) hx hb d_Mo_mix_448 (by decide +kernel) ?_
              refine lv_dup2_11 hx hb d_Mo_mix_449 rfl rfl ?_
              refine kv_iald hx hb hK hP 2 1 rfl rfl (by omega) (by omega) d_Mo_mix_450 ?_
              refine lv_topi (fun v_24 _ => ?_)
              refine lv_iload hx hb d_Mo_mix_451 (lv_at hl 6 rfl) ?_
              refine lv_iadd hx hb d_Mo_mix_453 ?_
              refine lv_topi (fun v_25 _ => ?_)
              refine kv_iast hx hb hK hP hD hS 2 1 rfl rfl (by omega) (by omega) d_Mo_mix_454 (fun H locs g_26 _ hP hD hS => ?_)
              have hP : va_P (dC, dI) CL [(h0, .inr (11, [.ref rn, w1, w2, w3, w4, w5, w6, w7, w8, w9, w10, w11, w12, w13, w14, w15, w16, w17, w18, w19, w20, w21, w22, w23, .ref bl, .ref sh, w26, w27, .ref st, .ref rw, w30, w31, w32, w33])), (bl, .inl (kb, 1200, .inl fb)), (st, .inl (ks, 8, .inl g_26)), (rw, .inl (kr, 64, .inl r9)), (sh, .inl (kh, 32, .inl fh)), (rn, .inl (kn, 64, .inl fn))] H := hP
              have hD : va_D A [(h0, .inr (11, [.ref rn, w1, w2, w3, w4, w5, w6, w7, w8, w9, w10, w11, w12, w13, w14, w15, w16, w17, w18, w19, w20, w21, w22, w23, .ref bl, .ref sh, w26, w27, .ref st, .ref rw, w30, w31, w32, w33])), (bl, .inl (kb, 1200, .inl fb)), (st, .inl (ks, 8, .inl g_26)), (rw, .inl (kr, 64, .inl r9)), (sh, .inl (kh, 32, .inl fh)), (rn, .inl (kn, 64, .inl fn))] := hD
              refine lv_aload_n hx hb d_Mo_mix_455 rfl (lv_at hl 0 rfl) ?_
              refine va_get (D := (dC, dI)) (ci := 11) (v := .ref st) (C := R_Mo) (T := F_Mo) (N := 34) hx hb hts i_Mo hown hK hP 0 rfl rfl 28 (by decide) (hts _ m_282) (fun _ h9 => h9) rfl d_Mo_mix_456 ?_
              refine lv_bipush (v := (nI 6)) hx hb d_Mo_mix_459 (by decide +kernel) ?_
              refine lv_dup2_11 hx hb d_Mo_mix_461 rfl rfl ?_
              refine kv_iald hx hb hK hP 2 1 rfl rfl (by omega) (by omega) d_Mo_mix_462 ?_
              refine lv_topi (fun v_27 _ => ?_)
              refine lv_iload hx hb d_Mo_mix_463 (lv_at hl 7 rfl) ?_
              refine lv_iadd hx hb d_Mo_mix_465 ?_
              refine lv_topi (fun v_28 _ => ?_)
              refine kv_iast hx hb hK hP hD hS 2 1 rfl rfl (by omega) (by omega) d_Mo_mix_466 (fun H locs g_29 _ hP hD hS => ?_)
              have hP : va_P (dC, dI) CL [(h0, .inr (11, [.ref rn, w1, w2, w3, w4, w5, w6, w7, w8, w9, w10, w11, w12, w13, w14, w15, w16, w17, w18, w19, w20, w21, w22, w23, .ref bl, .ref sh, w26, w27, .ref st, .ref rw, w30, w31, w32, w33])), (bl, .inl (kb, 1200, .inl fb)), (st, .inl (ks, 8, .inl g_29)), (rw, .inl (kr, 64, .inl r9)), (sh, .inl (kh, 32, .inl fh)), (rn, .inl (kn, 64, .inl fn))] H := hP
              have hD : va_D A [(h0, .inr (11, [.ref rn, w1, w2, w3, w4, w5, w6, w7, w8, w9, w10, w11, w12, w13, w14, w15, w16, w17, w18, w19, w20, w21, w22, w23, .ref bl, .ref sh, w26, w27, .ref st, .ref rw, w30, w31, w32, w33])), (bl, .inl (kb, 1200, .inl fb)), (st, .inl (ks, 8, .inl g_29)), (rw, .inl (kr, 64, .inl r9)), (sh, .inl (kh, 32, .inl fh)), (rn, .inl (kn, 64, .inl fn))] := hD
              refine lv_aload_n hx hb d_Mo_mix_467 rfl (lv_at hl 0 rfl) ?_
              refine va_get (D := (dC, dI)) (ci := 11) (v := .ref st) (C := R_Mo) (T := F_Mo) (N := 34) hx hb hts i_Mo hown hK hP 0 rfl rfl 28 (by decide) (hts _ m_282) (fun _ h9 => h9) rfl d_Mo_mix_468 ?_
              refine lv_bipush (v := (nI 7)) hx hb d_Mo_mix_471 (by decide +kernel) ?_
              refine lv_dup2_11 hx hb d_Mo_mix_473 rfl rfl ?_
              refine kv_iald hx hb hK hP 2 1 rfl rfl (by omega) (by omega) d_Mo_mix_474 ?_
              refine lv_topi (fun v_30 _ => ?_)
              refine lv_iload hx hb d_Mo_mix_475 (lv_at hl 8 rfl) ?_
              refine lv_iadd hx hb d_Mo_mix_477 ?_
              refine lv_topi (fun v_31 _ => ?_)
              refine kv_iast hx hb hK hP hD hS 2 1 rfl rfl (by omega) (by omega) d_Mo_mix_478 (fun H locs g_32 _ hP hD hS => ?_)
              have hP : va_P (dC, dI) CL [(h0, .inr (11, [.ref rn, w1, w2, w3, w4, w5, w6, w7, w8, w9, w10, w11, w12, w13, w14, w15, w16, w17, w18, w19, w20, w21, w22, w23, .ref bl, .ref sh, w26, w27, .ref st, .ref rw, w30, w31, w32, w33])), (bl, .inl (kb, 1200, .inl fb)), (st, .inl (ks, 8, .inl g_32)), (rw, .inl (kr, 64, .inl r9)), (sh, .inl (kh, 32, .inl fh)), (rn, .inl (kn, 64, .inl fn))] H := hP
              have hD : va_D A [(h0, .inr (11, [.ref rn, w1, w2, w3, w4, w5, w6, w7, w8, w9, w10, w11, w12, w13, w14, w15, w16, w17, w18, w19, w20, w21, w22, w23, .ref bl, .ref sh, w26, w27, .ref st, .ref rw, w30, w31, w32, w33])), (bl, .inl (kb, 1200, .inl fb)), (st, .inl (ks, 8, .inl g_32)), (rw, .inl (kr, 64, .inl r9)), (sh, .inl (kh, 32, .inl fh)), (rn, .inl (kn, 64, .inl fn))] := hD
              have hP9 := hP.sub (ws' := [(h0, .inr (11, [.ref rn, w1, w2, w3, w4, w5, w6, w7, w8, w9, w10, w11, w12, w13, w14, w15, w16, w17, w18, w19, w20, w21, w22, w23, .ref bl, .ref sh, w26, w27, .ref st, .ref rw, w30, w31, w32, w33])), (bl, .inl (kb, 1200, .inl fb)), (st, .inl (ks, 8, .inl g_32)), (rw, .inl (kr, 64, .inl r9)), (sh, .inl (kh, 32, .inl fh)), (rn, .inl (kn, 64, .inl fn))]) [0, 1, 2, 3, 4, 5] rfl
              have hD9 := hD.sub (ws' := [(h0, .inr (11, [.ref rn, w1, w2, w3, w4, w5, w6, w7, w8, w9, w10, w11, w12, w13, w14, w15, w16, w17, w18, w19, w20, w21, w22, w23, .ref bl, .ref sh, w26, w27, .ref st, .ref rw, w30, w31, w32, w33])), (bl, .inl (kb, 1200, .inl fb)), (st, .inl (ks, 8, .inl g_32)), (rw, .inl (kr, 64, .inl r9)), (sh, .inl (kh, 32, .inl fh)), (rn, .inl (kn, 64, .inl fn))]) [0, 1, 2, 3, 4, 5] (by decide) rfl
              have hK9 := hK.sub (tys' := []) [] rfl
              rw [hQg]
              exact W.vret hx hb hr (fun t ht hW => ⟨⟨(g_32, r9), rfl, trivial, by rw [ht]; exact hP9, va_K.moved hW.alike hK9, hD9⟩, hS.F ht⟩) hS.2.2 d_Mo_mix_479
            · have c255 : ¬ (64 ≤ j9) := fun h => c255 ((nI_leI (by omega) (by omega)).mpr h)
              refine lv_iload hx hb d_Mo_mix_258 (lv_at hl 8 rfl) ?_
              refine lv_iload hx hb d_Mo_mix_260 (lv_at hl 5 rfl) ?_
              refine lv_bipush (v := (nI 6)) hx hb d_Mo_mix_262 (by decide +kernel) ?_
              refine k_fini (wr := [(h0, .inr (11, [.ref rn, w1, w2, w3, w4, w5, w6, w7, w8, w9, w10, w11, w12, w13, w14, w15, w16, w17, w18, w19, w20, w21, w22, w23, .ref bl, .ref sh, w26, w27, .ref st, .ref rw, w30, w31, w32, w33])), (bl, .inl (kb, 1200, .inl fb)), (st, .inl (ks, 8, .inl fs)), (rw, .inl (kr, 64, .inl r9)), (sh, .inl (kh, 32, .inl fh)), (rn, .inl (kn, 64, .inl fn))]) [] [0, 1, 2, 3, 4, 5] (k_runS (n := 2) (As := [.int y6, .int (nI 6)]) (rest := [.int y9]) (wc := []) ⟨hx, hb, hml, hown, hts⟩ (c_Mo_turned l dC dI y6 (nI 6) _ ) (kg_S m_284 m_285 m_263 (kg_code m_283)) (by decide +kernel) rfl rfl ⟨Nat.le_of_ble_eq_true rfl, Nat.le_of_ble_eq_true rfl⟩ [] [] hP hD hK hS hA hZ hN (by rfl) (by decide) (by rfl) rfl hl.1 rfl (Nat.le_of_ble_eq_true rfl) d_Mo_mix_264 ⟨(Nat.le_of_ble_eq_true rfl), (Nat.le_of_ble_eq_true rfl)⟩) hP hD hK hS hA (by rfl) (by rfl) (by decide) (by decide) (fun r_33 u9 H locs hw_34 hP hD hK hS => ?_)
              try dsimp only at hw_34
              have hP : va_P (dC, dI) CL [(h0, .inr (11, [.ref rn, w1, w2, w3, w4, w5, w6, w7, w8, w9, w10, w11, w12, w13, w14, w15, w16, w17, w18, w19, w20, w21, w22, w23, .ref bl, .ref sh, w26, w27, .ref st, .ref rw, w30, w31, w32, w33])), (bl, .inl (kb, 1200, .inl fb)), (st, .inl (ks, 8, .inl fs)), (rw, .inl (kr, 64, .inl r9)), (sh, .inl (kh, 32, .inl fh)), (rn, .inl (kn, 64, .inl fn))] H := hP
              have hD : va_D A [(h0, .inr (11, [.ref rn, w1, w2, w3, w4, w5, w6, w7, w8, w9, w10, w11, w12, w13, w14, w15, w16, w17, w18, w19, w20, w21, w22, w23, .ref bl, .ref sh, w26, w27, .ref st, .ref rw, w30, w31, w32, w33])), (bl, .inl (kb, 1200, .inl fb)), (st, .inl (ks, 8, .inl fs)), (rw, .inl (kr, 64, .inl r9)), (sh, .inl (kh, 32, .inl fh)), (rn, .inl (kn, 64, .inl fn))] := hD
              have hK : va_K (dC, dI) CL [(kb, .byte), (ks, .int), (kr, .int), (kh, .byte), (kn, .int)] s := hK
              refine lv_iload hx hb d_Mo_mix_267 (lv_at hl 5 rfl) ?_
              refine lv_bipush (v := (nI 11)) hx hb d_Mo_mix_269 (by decide +kernel) ?_
              refine k_fini (wr := [(h0, .inr (11, [.ref rn, w1, w2, w3, w4, w5, w6, w7, w8, w9, w10, w11, w12, w13, w14, w15, w16, w17, w18, w19, w20, w21, w22, w23, .ref bl, .ref sh, w26, w27, .ref st, .ref rw, w30, w31, w32, w33])), (bl, .inl (kb, 1200, .inl fb)), (st, .inl (ks, 8, .inl fs)), (rw, .inl (kr, 64, .inl r9)), (sh, .inl (kh, 32, .inl fh)), (rn, .inl (kn, 64, .inl fn))]) [] [0, 1, 2, 3, 4, 5] (k_runS (n := 2) (As := [.int y6, .int (nI 11)]) (rest := [.int r_33, .int y9]) (wc := []) ⟨hx, hb, hml, hown, hts⟩ (c_Mo_turned l dC dI y6 (nI 11) _ ) (kg_S m_284 m_285 m_263 (kg_code m_283)) (by decide +kernel) rfl rfl ⟨Nat.le_of_ble_eq_true rfl, Nat.le_of_ble_eq_true rfl⟩ [] [] hP hD hK hS hA hZ hN (by rfl) (by decide) (by rfl) rfl hl.1 rfl (Nat.le_of_ble_eq_true rfl) d_Mo_mix_271 ⟨(Nat.le_of_ble_eq_true rfl), (Nat.le_of_ble_eq_true rfl)⟩) hP hD hK hS hA (by rfl) (by rfl) (by decide) (by decide) (fun r_35 u9 H locs hw_36 hP hD hK hS => ?_)
              try dsimp only at hw_36
              have hP : va_P (dC, dI) CL [(h0, .inr (11, [.ref rn, w1, w2, w3, w4, w5, w6, w7, w8, w9, w10, w11, w12, w13, w14, w15, w16, w17, w18, w19, w20, w21, w22, w23, .ref bl, .ref sh, w26, w27, .ref st, .ref rw, w30, w31, w32, w33])), (bl, .inl (kb, 1200, .inl fb)), (st, .inl (ks, 8, .inl fs)), (rw, .inl (kr, 64, .inl r9)), (sh, .inl (kh, 32, .inl fh)), (rn, .inl (kn, 64, .inl fn))] H := hP
              have hD : va_D A [(h0, .inr (11, [.ref rn, w1, w2, w3, w4, w5, w6, w7, w8, w9, w10, w11, w12, w13, w14, w15, w16, w17, w18, w19, w20, w21, w22, w23, .ref bl, .ref sh, w26, w27, .ref st, .ref rw, w30, w31, w32, w33])), (bl, .inl (kb, 1200, .inl fb)), (st, .inl (ks, 8, .inl fs)), (rw, .inl (kr, 64, .inl r9)), (sh, .inl (kh, 32, .inl fh)), (rn, .inl (kn, 64, .inl fn))] := hD
              have hK : va_K (dC, dI) CL [(kb, .byte), (ks, .int), (kr, .int), (kh, .byte), (kn, .int)] s := hK
              refine lv_ixor hx hb d_Mo_mix_274 ?_
              refine lv_topi (fun v_37 _ => ?_)
              refine lv_iload hx hb d_Mo_mix_275 (lv_at hl 5 rfl) ?_
              refine lv_bipush (v := (nI 25)) hx hb d_Mo_mix_277 (by decide +kernel) ?_
              refine k_fini (wr := [(h0, .inr (11, [.ref rn, w1, w2, w3, w4, w5, w6, w7, w8, w9, w10, w11, w12, w13, w14, w15, w16, w17, w18, w19, w20, w21, w22, w23, .ref bl, .ref sh, w26, w27, .ref st, .ref rw, w30, w31, w32, w33])), (bl, .inl (kb, 1200, .inl fb)), (st, .inl (ks, 8, .inl fs)), (rw, .inl (kr, 64, .inl r9)), (sh, .inl (kh, 32, .inl fh)), (rn, .inl (kn, 64, .inl fn))]) [] [0, 1, 2, 3, 4, 5] (k_runS (n := 2) (As := [.int y6, .int (nI 25)]) (rest := [.int v_37, .int y9]) (wc := []) ⟨hx, hb, hml, hown, hts⟩ (c_Mo_turned l dC dI y6 (nI 25) _ ) (kg_S m_284 m_285 m_263 (kg_code m_283)) (by decide +kernel) rfl rfl ⟨Nat.le_of_ble_eq_true rfl, Nat.le_of_ble_eq_true rfl⟩ [] [] hP hD hK hS hA hZ hN (by rfl) (by decide) (by rfl) rfl hl.1 rfl (Nat.le_of_ble_eq_true rfl) d_Mo_mix_279 ⟨(Nat.le_of_ble_eq_true rfl), (Nat.le_of_ble_eq_true rfl)⟩) hP hD hK hS hA (by rfl) (by rfl) (by decide) (by decide) (fun r_38 u9 H locs hw_39 hP hD hK hS => ?_)
              try dsimp only at hw_39
              have hP : va_P (dC, dI) CL [(h0, .inr (11, [.ref rn, w1, w2, w3, w4, w5, w6, w7, w8, w9, w10, w11, w12, w13, w14, w15, w16, w17, w18, w19, w20, w21, w22, w23, .ref bl, .ref sh, w26, w27, .ref st, .ref rw, w30, w31, w32, w33])), (bl, .inl (kb, 1200, .inl fb)), (st, .inl (ks, 8, .inl fs)), (rw, .inl (kr, 64, .inl r9)), (sh, .inl (kh, 32, .inl fh)), (rn, .inl (kn, 64, .inl fn))] H := hP
              have hD : va_D A [(h0, .inr (11, [.ref rn, w1, w2, w3, w4, w5, w6, w7, w8, w9, w10, w11, w12, w13, w14, w15, w16, w17, w18, w19, w20, w21, w22, w23, .ref bl, .ref sh, w26, w27, .ref st, .ref rw, w30, w31, w32, w33])), (bl, .inl (kb, 1200, .inl fb)), (st, .inl (ks, 8, .inl fs)), (rw, .inl (kr, 64, .inl r9)), (sh, .inl (kh, 32, .inl fh)), (rn, .inl (kn, 64, .inl fn))] := hD
              have hK : va_K (dC, dI) CL [(kb, .byte), (ks, .int), (kr, .int), (kh, .byte), (kn, .int)] s := hK
              refine lv_ixor hx hb d_Mo_mix_282 ?_
              refine lv_topi (fun v_40 _ => ?_)
              refine lv_iadd hx hb d_Mo_mix_283 ?_
              refine lv_topi (fun v_41 _ => ?_)
              refine lv_iload hx hb d_Mo_mix_284 (lv_at hl 5 rfl) ?_
              refine lv_iload hx hb d_Mo_mix_286 (lv_at hl 6 rfl) ?_
              refine lv_iand hx hb d_Mo_mix_288 ?_
              refine lv_topi (fun v_42 _ => ?_)
              refine lv_iload hx hb d_Mo_mix_289 (lv_at hl 5 rfl) ?_
              refine lv_iconst (v := (-1)) hx hb d_Mo_mix_291 (by decide +kernel) ?_
              refine lv_ixor hx hb d_Mo_mix_292 ?_
              refine lv_topi (fun v_43 _ => ?_)
              refine lv_iload hx hb d_Mo_mix_293 (lv_at hl 7 rfl) ?_
              refine lv_iand hx hb d_Mo_mix_295 ?_
              refine lv_topi (fun v_44 _ => ?_)
              refine lv_ixor hx hb d_Mo_mix_296 ?_
              refine lv_topi (fun v_45 _ => ?_)
              refine lv_iadd hx hb d_Mo_mix_297 ?_
              refine lv_topi (fun v_46 _ => ?_)
              refine lv_aload_n hx hb d_Mo_mix_298 rfl (lv_at hl 0 rfl) ?_
              refine va_get (D := (dC, dI)) (ci := 11) (v := .ref rn) (C := R_Mo) (T := F_Mo) (N := 34) hx hb hts i_Mo hown hK hP 0 rfl rfl 0 (by decide) (hts _ m_286) (fun _ h9 => h9) rfl d_Mo_mix_299 ?_
              refine lv_iload hx hb d_Mo_mix_302 (lv_at hl 9 rfl) ?_
              refine kv_iald hx hb hK hP 5 4 rfl rfl (by omega) (by omega) d_Mo_mix_304 ?_
              refine lv_topi (fun v_47 _ => ?_)
              refine lv_iadd hx hb d_Mo_mix_305 ?_
              refine lv_topi (fun v_48 _ => ?_)
              refine lv_aload_n hx hb d_Mo_mix_306 rfl (lv_at hl 0 rfl) ?_
              refine va_get (D := (dC, dI)) (ci := 11) (v := .ref rw) (C := R_Mo) (T := F_Mo) (N := 34) hx hb hts i_Mo hown hK hP 0 rfl rfl 29 (by decide) (hts _ m_287) (fun _ h9 => h9) rfl d_Mo_mix_307 ?_
              refine lv_iload hx hb d_Mo_mix_310 (lv_at hl 9 rfl) ?_
              refine kv_iald hx hb hK hP 3 2 rfl rfl (by omega) (by omega) d_Mo_mix_312 ?_
              refine lv_topi (fun v_49 _ => ?_)
              refine lv_iadd hx hb d_Mo_mix_313 ?_
              refine lv_topi (fun v_50 _ => ?_)
              refine lv_istore (lv' := [(11, .int v_50), (0, .ref h0), (2, .int y2), (3, .int y3), (4, .int y4), (5, .int y5), (6, .int y6), (7, .int y7), (8, .int y8), (9, .int y9), (10, .int (nI j9))]) hx hb d_Mo_mix_314 hl (by decide) rfl (fun ls hl => ?_)
              refine lv_iload_n hx hb d_Mo_mix_316 rfl (lv_at hl 2 rfl) ?_
              refine lv_iconst (v := (nI 2)) hx hb d_Mo_mix_317 (by decide +kernel) ?_
              refine k_fini (wr := [(h0, .inr (11, [.ref rn, w1, w2, w3, w4, w5, w6, w7, w8, w9, w10, w11, w12, w13, w14, w15, w16, w17, w18, w19, w20, w21, w22, w23, .ref bl, .ref sh, w26, w27, .ref st, .ref rw, w30, w31, w32, w33])), (bl, .inl (kb, 1200, .inl fb)), (st, .inl (ks, 8, .inl fs)), (rw, .inl (kr, 64, .inl r9)), (sh, .inl (kh, 32, .inl fh)), (rn, .inl (kn, 64, .inl fn))]) [] [0, 1, 2, 3, 4, 5] (k_runS (n := 2) (As := [.int y2, .int (nI 2)]) (rest := []) (wc := []) ⟨hx, hb, hml, hown, hts⟩ (c_Mo_turned l dC dI y2 (nI 2) _ ) (kg_S m_284 m_285 m_263 (kg_code m_283)) (by decide +kernel) rfl rfl ⟨Nat.le_of_ble_eq_true rfl, Nat.le_of_ble_eq_true rfl⟩ [] [] hP hD hK hS hA hZ hN (by rfl) (by decide) (by rfl) rfl hl.1 rfl (Nat.le_of_ble_eq_true rfl) d_Mo_mix_318 ⟨(Nat.le_of_ble_eq_true rfl), (Nat.le_of_ble_eq_true rfl)⟩) hP hD hK hS hA (by rfl) (by rfl) (by decide) (by decide) (fun r_51 u9 H locs hw_52 hP hD hK hS => ?_)
              try dsimp only at hw_52
              have hP : va_P (dC, dI) CL [(h0, .inr (11, [.ref rn, w1, w2, w3, w4, w5, w6, w7, w8, w9, w10, w11, w12, w13, w14, w15, w16, w17, w18, w19, w20, w21, w22, w23, .ref bl, .ref sh, w26, w27, .ref st, .ref rw, w30, w31, w32, w33])), (bl, .inl (kb, 1200, .inl fb)), (st, .inl (ks, 8, .inl fs)), (rw, .inl (kr, 64, .inl r9)), (sh, .inl (kh, 32, .inl fh)), (rn, .inl (kn, 64, .inl fn))] H := hP
              have hD : va_D A [(h0, .inr (11, [.ref rn, w1, w2, w3, w4, w5, w6, w7, w8, w9, w10, w11, w12, w13, w14, w15, w16, w17, w18, w19, w20, w21, w22, w23, .ref bl, .ref sh, w26, w27, .ref st, .ref rw, w30, w31, w32, w33])), (bl, .inl (kb, 1200, .inl fb)), (st, .inl (ks, 8, .inl fs)), (rw, .inl (kr, 64, .inl r9)), (sh, .inl (kh, 32, .inl fh)), (rn, .inl (kn, 64, .inl fn))] := hD
              have hK : va_K (dC, dI) CL [(kb, .byte), (ks, .int), (kr, .int), (kh, .byte), (kn, .int)] s := hK
              refine lv_iload_n hx hb d_Mo_mix_321 rfl (lv_at hl 2 rfl) ?_
              refine lv_bipush (v := (nI 13)) hx hb d_Mo_mix_322 (by decide +kernel) ?_
              refine k_fini (wr := [(h0, .inr (11, [.ref rn, w1, w2, w3, w4, w5, w6, w7, w8, w9, w10, w11, w12, w13, w14, w15, w16, w17, w18, w19, w20, w21, w22, w23, .ref bl, .ref sh, w26, w27, .ref st, .ref rw, w30, w31, w32, w33])), (bl, .inl (kb, 1200, .inl fb)), (st, .inl (ks, 8, .inl fs)), (rw, .inl (kr, 64, .inl r9)), (sh, .inl (kh, 32, .inl fh)), (rn, .inl (kn, 64, .inl fn))]) [] [0, 1, 2, 3, 4, 5] (k_runS (n := 2) (As := [.int y2, .int (nI 13)]) (rest := [.int r_51]) (wc := []) ⟨hx, hb, hml, hown, hts⟩ (c_Mo_turned l dC dI y2 (nI 13) _ ) (kg_S m_284 m_285 m_263 (kg_code m_283)) (by decide +kernel) rfl rfl ⟨Nat.le_of_ble_eq_true rfl, Nat.le_of_ble_eq_true rfl⟩ [] [] hP hD hK hS hA hZ hN (by rfl) (by decide) (by rfl) rfl hl.1 rfl (Nat.le_of_ble_eq_true rfl) d_Mo_mix_324 ⟨(Nat.le_of_ble_eq_true rfl), (Nat.le_of_ble_eq_true rfl)⟩) hP hD hK hS hA (by rfl) (by rfl) (by decide) (by decide) (fun r_53 u9 H locs hw_54 hP hD hK hS => ?_)
              try dsimp only at hw_54
              have hP : va_P (dC, dI) CL [(h0, .inr (11, [.ref rn, w1, w2, w3, w4, w5, w6, w7, w8, w9, w10, w11, w12, w13, w14, w15, w16, w17, w18, w19, w20, w21, w22, w23, .ref bl, .ref sh, w26, w27, .ref st, .ref rw, w30, w31, w32, w33])), (bl, .inl (kb, 1200, .inl fb)), (st, .inl (ks, 8, .inl fs)), (rw, .inl (kr, 64, .inl r9)), (sh, .inl (kh, 32, .inl fh)), (rn, .inl (kn, 64, .inl fn))] H := hP
              have hD : va_D A [(h0, .inr (11, [.ref rn, w1, w2, w3, w4, w5, w6, w7, w8, w9, w10, w11, w12, w13, w14, w15, w16, w17, w18, w19, w20, w21, w22, w23, .ref bl, .ref sh, w26, w27, .ref st, .ref rw, w30, w31, w32, w33])), (bl, .inl (kb, 1200, .inl fb)), (st, .inl (ks, 8, .inl fs)), (rw, .inl (kr, 64, .inl r9)), (sh, .inl (kh, 32, .inl fh)), (rn, .inl (kn, 64, .inl fn))] := hD
              have hK : va_K (dC, dI) CL [(kb, .byte), (ks, .int), (kr, .int), (kh, .byte), (kn, .int)] s := hK
              refine lv_ixor hx hb d_Mo_mix_327 ?_
              refine lv_topi (fun v_55 _ => ?_)
              refine lv_iload_n hx hb d_Mo_mix_328 rfl (lv_at hl 2 rfl) ?_
              refine lv_bipush (v := (nI 22)) hx hb d_Mo_mix_329 (by decide +kernel) ?_
              refine k_fini (wr := [(h0, .inr (11, [.ref rn, w1, w2, w3, w4, w5, w6, w7, w8, w9, w10, w11, w12, w13, w14, w15, w16, w17, w18, w19, w20, w21, w22, w23, .ref bl, .ref sh, w26, w27, .ref st, .ref rw, w30, w31, w32, w33])), (bl, .inl (kb, 1200, .inl fb)), (st, .inl (ks, 8, .inl fs)), (rw, .inl (kr, 64, .inl r9)), (sh, .inl (kh, 32, .inl fh)), (rn, .inl (kn, 64, .inl fn))]) [] [0, 1, 2, 3, 4, 5] (k_runS (n := 2) (As := [.int y2, .int (nI 22)]) (rest := [.int v_55]) (wc := []) ⟨hx, hb, hml, hown, hts⟩ (c_Mo_turned l dC dI y2 (nI 22) _ ) (kg_S m_284 m_285 m_263 (kg_code m_283)) (by decide +kernel) rfl rfl ⟨Nat.le_of_ble_eq_true rfl, Nat.le_of_ble_eq_true rfl⟩ [] [] hP hD hK hS hA hZ hN (by rfl) (by decide) (by rfl) rfl hl.1 rfl (Nat.le_of_ble_eq_true rfl) d_Mo_mix_331 ⟨(Nat.le_of_ble_eq_true rfl), (Nat.le_of_ble_eq_true rfl)⟩) hP hD hK hS hA (by rfl) (by rfl) (by decide) (by decide) (fun r_56 u9 H locs hw_57 hP hD hK hS => ?_)
              try dsimp only at hw_57
              have hP : va_P (dC, dI) CL [(h0, .inr (11, [.ref rn, w1, w2, w3, w4, w5, w6, w7, w8, w9, w10, w11, w12, w13, w14, w15, w16, w17, w18, w19, w20, w21, w22, w23, .ref bl, .ref sh, w26, w27, .ref st, .ref rw, w30, w31, w32, w33])), (bl, .inl (kb, 1200, .inl fb)), (st, .inl (ks, 8, .inl fs)), (rw, .inl (kr, 64, .inl r9)), (sh, .inl (kh, 32, .inl fh)), (rn, .inl (kn, 64, .inl fn))] H := hP
              have hD : va_D A [(h0, .inr (11, [.ref rn, w1, w2, w3, w4, w5, w6, w7, w8, w9, w10, w11, w12, w13, w14, w15, w16, w17, w18, w19, w20, w21, w22, w23, .ref bl, .ref sh, w26, w27, .ref st, .ref rw, w30, w31, w32, w33])), (bl, .inl (kb, 1200, .inl fb)), (st, .inl (ks, 8, .inl fs)), (rw, .inl (kr, 64, .inl r9)), (sh, .inl (kh, 32, .inl fh)), (rn, .inl (kn, 64, .inl fn))] := hD
              have hK : va_K (dC, dI) CL [(kb, .byte), (ks, .int), (kr, .int), (kh, .byte), (kn, .int)] s := hK
              refine lv_ixor hx hb d_Mo_mix_334 ?_
              refine lv_topi (fun v_58 _ => ?_)
              refine lv_iload_n hx hb d_Mo_mix_335 rfl (lv_at hl 2 rfl) ?_
              refine lv_iload_n hx hb d_Mo_mix_336 rfl (lv_at hl 3 rfl) ?_
              refine lv_iand hx hb d_Mo_mix_337 ?_
              refine lv_topi (fun v_59 _ => ?_)
              refine lv_iload_n hx hb d_Mo_mix_338 rfl (lv_at hl 2 rfl) ?_
              refine lv_iload hx hb d_Mo_mix_339 (lv_at hl 4 rfl) ?_
              refine lv_iand hx hb d_Mo_mix_341 ?_
              refine lv_topi (fun v_60 _ => ?_)
              refine lv_ixor hx hb d_Mo_mix_342 ?_
              refine lv_topi (fun v_61 _ => ?_)
              refine lv_iload_n hx hb d_Mo_mix_343 rfl (lv_at hl 3 rfl) ?_
              refine lv_iload hx hb d_Mo_mix_344 (lv_at hl 4 rfl) ?_
              refine lv_iand hx hb d_Mo_mix_346 ?_
              refine lv_topi (fun v_62 _ => ?_)
              refine lv_ixor hx hb d_Mo_mix_347 ?_
              refine lv_topi (fun v_63 _ => ?_)
              refine lv_iadd hx hb d_Mo_mix_348 ?_
              refine lv_topi (fun v_64 _ => ?_)
              refine lv_istore (lv' := [(12, .int v_64), (11, .int v_50), (0, .ref h0), (2, .int y2), (3, .int y3), (4, .int y4), (5, .int y5), (6, .int y6), (7, .int y7), (8, .int y8), (9, .int y9), (10, .int (nI j9))]) hx hb d_Mo_mix_349 hl (by decide) rfl (fun ls hl => ?_)
              refine lv_iload hx hb d_Mo_mix_351 (lv_at hl 9 rfl) ?_
              refine lv_istore (lv' := [(9, .int y8), (12, .int v_64), (11, .int v_50), (0, .ref h0), (2, .int y2), (3, .int y3), (4, .int y4), (5, .int y5), (6, .int y6), (7, .int y7), (8, .int y8), (10, .int (nI j9))]) hx hb d_Mo_mix_353 hl (by decide) rfl (fun ls hl => ?_)
              refine lv_iload hx hb d_Mo_mix_355 (lv_at hl 9 rfl) ?_
              refine lv_istore (lv' := [(8, .int y7), (9, .int y8), (12, .int v_64), (11, .int v_50), (0, .ref h0), (2, .int y2), (3, .int y3), (4, .int y4), (5, .int y5), (6, .int y6), (7, .int y7), (10, .int (nI j9))]) hx hb d_Mo_mix_357 hl (by decide) rfl (fun ls hl => ?_)
              refine lv_iload hx hb d_Mo_mix_359 (lv_at hl 9 rfl) ?_
              refine lv_istore (lv' := [(7, .int y6), (8, .int y7), (9, .int y8), (12, .int v_64), (11, .int v_50), (0, .ref h0), (2, .int y2), (3, .int y3), (4, .int y4), (5, .int y5), (6, .int y6), (10, .int (nI j9))]) hx hb d_Mo_mix_361 hl (by decide) rfl (fun ls hl => ?_)
              refine lv_iload hx hb d_Mo_mix_363 (lv_at hl 9 rfl) ?_
              refine lv_iload hx hb d_Mo_mix_365 (lv_at hl 4 rfl) ?_
              refine lv_iadd hx hb d_Mo_mix_367 ?_
              refine lv_topi (fun v_65 _ => ?_)
              refine lv_istore (lv' := [(6, .int v_65), (7, .int y6), (8, .int y7), (9, .int y8), (12, .int v_64), (11, .int v_50), (0, .ref h0), (2, .int y2), (3, .int y3), (4, .int y4), (5, .int y5), (10, .int (nI j9))]) hx hb d_Mo_mix_368 hl (by decide) rfl (fun ls hl => ?_)
              refine lv_iload hx hb d_Mo_mix_370 (lv_at hl 9 rfl) ?_
              refine lv_istore (lv' := [(5, .int y4), (6, .int v_65), (7, .int y6), (8, .int y7), (9, .int y8), (12, .int v_64), (11, .int v_50), (0, .ref h0), (2, .int y2), (3, .int y3), (4, .int y4), (10, .int (nI j9))]) hx hb d_Mo_mix_372 hl (by decide) rfl (fun ls hl => ?_)
              refine lv_iload_n hx hb d_Mo_mix_374 rfl (lv_at hl 9 rfl) ?_
              refine lv_istore (lv' := [(4, .int y3), (5, .int y4), (6, .int v_65), (7, .int y6), (8, .int y7), (9, .int y8), (12, .int v_64), (11, .int v_50), (0, .ref h0), (2, .int y2), (3, .int y3), (10, .int (nI j9))]) hx hb d_Mo_mix_375 hl (by decide) rfl (fun ls hl => ?_)
              refine lv_iload_n hx hb d_Mo_mix_377 rfl (lv_at hl 9 rfl) ?_
              refine lv_istore_n (lv' := [(3, .int y2), (4, .int y3), (5, .int y4), (6, .int v_65), (7, .int y6), (8, .int y7), (9, .int y8), (12, .int v_64), (11, .int v_50), (0, .ref h0), (2, .int y2), (10, .int (nI j9))]) hx hb d_Mo_mix_378 rfl hl (by decide) rfl (fun ls hl => ?_)
              refine lv_iload hx hb d_Mo_mix_379 (lv_at hl 8 rfl) ?_
              refine lv_iload hx hb d_Mo_mix_381 (lv_at hl 7 rfl) ?_
              refine lv_iadd hx hb d_Mo_mix_383 ?_
              refine lv_topi (fun v_66 _ => ?_)
              refine lv_istore_n (lv' := [(2, .int v_66), (3, .int y2), (4, .int y3), (5, .int y4), (6, .int v_65), (7, .int y6), (8, .int y7), (9, .int y8), (12, .int v_64), (11, .int v_50), (0, .ref h0), (10, .int (nI j9))]) hx hb d_Mo_mix_384 rfl hl (by decide) rfl (fun ls hl => ?_)
              refine lv_iinc (v := (nI (j9 + 1))) (lv' := [(10, .int (nI (j9 + 1))), (2, .int v_66), (3, .int y2), (4, .int y3), (5, .int y4), (6, .int v_65), (7, .int y6), (8, .int y7), (9, .int y8), (12, .int v_64), (11, .int v_50), (0, .ref h0)]) hx hb d_Mo_mix_385 hl (k := 11) rfl (k_inc _) (by decide) rfl (fun ls hl => ?_)
              refine lv_goto (tgt := 251) hx hb d_Mo_mix_388 (by decide) ?_
              exact ih251  (j9 + 1) v_66 y2 y3 y4 v_65 y6 y7 y8 _ _ _ (by omega) (by omega) (hP.sub [0, 1, 2, 3, 4, 5] rfl) (hD.sub [0, 1, 2, 3, 4, 5] (by decide) rfl) hS (lv_sub hl [11, 1, 2, 3, 4, 5, 6, 7, 8, 0] rfl)
        exact lb_251 (64 - 0 + 1) 0 v_1 v_2 v_3 v_4 v_5 v_6 v_7 v_8 _ _ _ (Nat.zero_le _) (Nat.lt_succ_self _) (hP.sub [0, 1, 2, 3, 4, 5] rfl) (hD.sub [0, 1, 2, 3, 4, 5] (by decide) rfl) hS (lv_sub hl [9, 8, 7, 6, 5, 4, 3, 2, 1, 0] rfl)
      · have c5 : ¬ (64 ≤ i9) := fun h => c5 ((nI_leI (by omega) (by omega)).mpr h)
        refine lv_iload_n hx hb d_Mo_mix_8 rfl (lv_at hl 2 rfl) ?_
        refine lv_bipush (v := (nI 16)) hx hb d_Mo_mix_9 (by decide +kernel) ?_
        refine lv_icmp_ge (tgt := 93) hx hb d_Mo_mix_11 (by decide) (fun c11 => ?_) (fun c11 => ?_)
        · have c11 : 16 ≤ i9 := (nI_leI (by omega) (by omega)).mp c11
          refine lv_aload_n hx hb d_Mo_mix_93 rfl (lv_at hl 0 rfl) ?_
          refine va_get (D := (dC, dI)) (ci := 11) (v := .ref rw) (C := R_Mo) (T := F_Mo) (N := 34) hx hb hts i_Mo hown hK hP 0 rfl rfl 29 (by decide) (hts _ m_287) (fun _ h9 => h9) rfl d_Mo_mix_94 ?_
          refine lv_iload_n hx hb d_Mo_mix_97 rfl (lv_at hl 2 rfl) ?_
          refine lv_bipush (v := (nI 15)) hx hb d_Mo_mix_98 (by decide +kernel) ?_
          refine lv_isub hx hb d_Mo_mix_100 ?_
          refine ki (v := nI (i9 - 15)) (pk_sub (by omega)) ?_
          refine kv_iald hx hb hK hP 3 2 rfl rfl (by omega) (by omega) d_Mo_mix_101 ?_
          refine lv_topi (fun v_67 _ => ?_)
          refine lv_istore_n (lv' := [(3, .int v_67), (0, .ref h0), (1, .int (nI 0)), (2, .int (nI i9))]) hx hb d_Mo_mix_102 rfl hl (by decide) rfl (fun ls hl => ?_)
          refine lv_aload_n hx hb d_Mo_mix_103 rfl (lv_at hl 1 rfl) ?_
          refine va_get (D := (dC, dI)) (ci := 11) (v := .ref rw) (C := R_Mo) (T := F_Mo) (N := 34) hx hb hts i_Mo hown hK hP 0 rfl rfl 29 (by decide) (hts _ m_287) (fun _ h9 => h9) rfl d_Mo_mix_104 ?_
          refine lv_iload_n hx hb d_Mo_mix_107 rfl (lv_at hl 3 rfl) ?_
          refine lv_iconst (v := (nI 2)) hx hb d_Mo_mix_108 (by decide +kernel) ?_
          refine lv_isub hx hb d_Mo_mix_109 ?_
          refine ki (v := nI (i9 - 2)) (pk_sub (by omega)) ?_
          refine kv_iald hx hb hK hP 3 2 rfl rfl (by omega) (by omega) d_Mo_mix_110 ?_
          refine lv_topi (fun v_68 _ => ?_)
          refine lv_istore (lv' := [(4, .int v_68), (3, .int v_67), (0, .ref h0), (1, .int (nI 0)), (2, .int (nI i9))]) hx hb d_Mo_mix_111 hl (by decide) rfl (fun ls hl => ?_)
          refine lv_aload_n hx hb d_Mo_mix_113 rfl (lv_at hl 2 rfl) ?_
          refine va_get (D := (dC, dI)) (ci := 11) (v := .ref rw) (C := R_Mo) (T := F_Mo) (N := 34) hx hb hts i_Mo hown hK hP 0 rfl rfl 29 (by decide) (hts _ m_287) (fun _ h9 => h9) rfl d_Mo_mix_114 ?_
          refine lv_iload_n hx hb d_Mo_mix_117 rfl (lv_at hl 4 rfl) ?_
          refine lv_aload_n hx hb d_Mo_mix_118 rfl (lv_at hl 2 rfl) ?_
          refine va_get (D := (dC, dI)) (ci := 11) (v := .ref rw) (C := R_Mo) (T := F_Mo) (N := 34) hx hb hts i_Mo hown hK hP 0 rfl rfl 29 (by decide) (hts _ m_287) (fun _ h9 => h9) rfl d_Mo_mix_119 ?_
          refine lv_iload_n hx hb d_Mo_mix_122 rfl (lv_at hl 4 rfl) ?_
          refine lv_bipush (v := (nI 16)) hx hb d_Mo_mix_123 (by decide +kernel) ?_
          refine lv_isub hx hb d_Mo_mix_125 ?_
          refine ki (v := nI (i9 - 16)) (pk_sub (by omega)) ?_
          refine kv_iald hx hb hK hP 3 2 rfl rfl (by omega) (by omega) d_Mo_mix_126 ?_
          refine lv_topi (fun v_69 _ => ?_)
          refine lv_aload_n hx hb d_Mo_mix_127 rfl (lv_at hl 2 rfl) ?_
          refine va_get (D := (dC, dI)) (ci := 11) (v := .ref rw) (C := R_Mo) (T := F_Mo) (N := 34) hx hb hts i_Mo hown hK hP 0 rfl rfl 29 (by decide) (hts _ m_287) (fun _ h9 => h9) rfl d_Mo_mix_128 ?_
          refine lv_iload_n hx hb d_Mo_mix_131 rfl (lv_at hl 4 rfl) ?_
          refine lv_bipush (v := (nI 7)) hx hb d_Mo_mix_132 (by decide +kernel) ?_
          refine lv_isub hx hb d_Mo_mix_134 ?_
          refine ki (v := nI (i9 - 7)) (pk_sub (by omega)) ?_
          refine kv_iald hx hb hK hP 3 2 rfl rfl (by omega) (by omega) d_Mo_mix_135 ?_
          refine lv_topi (fun v_70 _ => ?_)
          refine lv_iadd hx hb d_Mo_mix_136 ?_
          refine lv_topi (fun v_71 _ => ?_)
          refine lv_iload_n hx hb d_Mo_mix_137 rfl (lv_at hl 1 rfl) ?_
          refine lv_bipush (v := (nI 7)) hx hb d_Mo_mix_138 (by decide +kernel) ?_
          refine k_fini (wr := [(h0, .inr (11, [.ref rn, w1, w2, w3, w4, w5, w6, w7, w8, w9, w10, w11, w12, w13, w14, w15, w16, w17, w18, w19, w20, w21, w22, w23, .ref bl, .ref sh, w26, w27, .ref st, .ref rw, w30, w31, w32, w33])), (bl, .inl (kb, 1200, .inl fb)), (st, .inl (ks, 8, .inl fs)), (rw, .inl (kr, 64, .inl r9)), (sh, .inl (kh, 32, .inl fh)), (rn, .inl (kn, 64, .inl fn))]) [] [0, 1, 2, 3, 4, 5] (k_runS (n := 2) (As := [.int v_67, .int (nI 7)]) (rest := [.int v_71, .int (nI i9), .ref rw]) (wc := []) ⟨hx, hb, hml, hown, hts⟩ (c_Mo_turned l dC dI v_67 (nI 7) _ ) (kg_S m_284 m_285 m_263 (kg_code m_283)) (by decide +kernel) rfl rfl ⟨Nat.le_of_ble_eq_true rfl, Nat.le_of_ble_eq_true rfl⟩ [] [] hP hD hK hS hA hZ hN (by rfl) (by decide) (by rfl) rfl hl.1 rfl (Nat.le_of_ble_eq_true rfl) d_Mo_mix_140 ⟨(Nat.le_of_ble_eq_true rfl), (Nat.le_of_ble_eq_true rfl)⟩) hP hD hK hS hA (by rfl) (by rfl) (by decide) (by decide) (fun r_72 u9 H locs hw_73 hP hD hK hS => ?_)
          try dsimp only at hw_73
          have hP : va_P (dC, dI) CL [(h0, .inr (11, [.ref rn, w1, w2, w3, w4, w5, w6, w7, w8, w9, w10, w11, w12, w13, w14, w15, w16, w17, w18, w19, w20, w21, w22, w23, .ref bl, .ref sh, w26, w27, .ref st, .ref rw, w30, w31, w32, w33])), (bl, .inl (kb, 1200, .inl fb)), (st, .inl (ks, 8, .inl fs)), (rw, .inl (kr, 64, .inl r9)), (sh, .inl (kh, 32, .inl fh)), (rn, .inl (kn, 64, .inl fn))] H := hP
          have hD : va_D A [(h0, .inr (11, [.ref rn, w1, w2, w3, w4, w5, w6, w7, w8, w9, w10, w11, w12, w13, w14, w15, w16, w17, w18, w19, w20, w21, w22, w23, .ref bl, .ref sh, w26, w27, .ref st, .ref rw, w30, w31, w32, w33])), (bl, .inl (kb, 1200, .inl fb)), (st, .inl (ks, 8, .inl fs)), (rw, .inl (kr, 64, .inl r9)), (sh, .inl (kh, 32, .inl fh)), (rn, .inl (kn, 64, .inl fn))] := hD
          have hK : va_K (dC, dI) CL [(kb, .byte), (ks, .int), (kr, .int), (kh, .byte), (kn, .int)] s := hK
          refine lv_iload_n hx hb d_Mo_mix_143 rfl (lv_at hl 1 rfl) ?_
          refine lv_bipush (v := (nI 18)) hx hb d_Mo_mix_144 (by decide +kernel) ?_
          refine k_fini (wr := [(h0, .inr (11, [.ref rn, w1, w2, w3, w4, w5, w6, w7, w8, w9, w10, w11, w12, w13, w14, w15, w16, w17, w18, w19, w20, w21, w22, w23, .ref bl, .ref sh, w26, w27, .ref st, .ref rw, w30, w31, w32, w33])), (bl, .inl (kb, 1200, .inl fb)), (st, .inl (ks, 8, .inl fs)), (rw, .inl (kr, 64, .inl r9)), (sh, .inl (kh, 32, .inl fh)), (rn, .inl (kn, 64, .inl fn))]) [] [0, 1, 2, 3, 4, 5] (k_runS (n := 2) (As := [.int v_67, .int (nI 18)]) (rest := [.int r_72, .int v_71, .int (nI i9), .ref rw]) (wc := []) ⟨hx, hb, hml, hown, hts⟩ (c_Mo_turned l dC dI v_67 (nI 18) _ ) (kg_S m_284 m_285 m_263 (kg_code m_283)) (by decide +kernel) rfl rfl ⟨Nat.le_of_ble_eq_true rfl, Nat.le_of_ble_eq_true rfl⟩ [] [] hP hD hK hS hA hZ hN (by rfl) (by decide) (by rfl) rfl hl.1 rfl (Nat.le_of_ble_eq_true rfl) d_Mo_mix_146 ⟨(Nat.le_of_ble_eq_true rfl), (Nat.le_of_ble_eq_true rfl)⟩) hP hD hK hS hA (by rfl) (by rfl) (by decide) (by decide) (fun r_74 u9 H locs hw_75 hP hD hK hS => ?_)
          try dsimp only at hw_75
          have hP : va_P (dC, dI) CL [(h0, .inr (11, [.ref rn, w1, w2, w3, w4, w5, w6, w7, w8, w9, w10, w11, w12, w13, w14, w15, w16, w17, w18, w19, w20, w21, w22, w23, .ref bl, .ref sh, w26, w27, .ref st, .ref rw, w30, w31, w32, w33])), (bl, .inl (kb, 1200, .inl fb)), (st, .inl (ks, 8, .inl fs)), (rw, .inl (kr, 64, .inl r9)), (sh, .inl (kh, 32, .inl fh)), (rn, .inl (kn, 64, .inl fn))] H := hP
          have hD : va_D A [(h0, .inr (11, [.ref rn, w1, w2, w3, w4, w5, w6, w7, w8, w9, w10, w11, w12, w13, w14, w15, w16, w17, w18, w19, w20, w21, w22, w23, .ref bl, .ref sh, w26, w27, .ref st, .ref rw, w30, w31, w32, w33])), (bl, .inl (kb, 1200, .inl fb)), (st, .inl (ks, 8, .inl fs)), (rw, .inl (kr, 64, .inl r9)), (sh, .inl (kh, 32, .inl fh)), (rn, .inl (kn, 64, .inl fn))] := hD
          have hK : va_K (dC, dI) CL [(kb, .byte), (ks, .int), (kr, .int), (kh, .byte), (kn, .int)] s := hK
          refine lv_ixor hx hb d_Mo_mix_149 ?_
          refine lv_topi (fun v_76 _ => ?_)
          refine lv_iload_n hx hb d_Mo_mix_150 rfl (lv_at hl 1 rfl) ?_
          refine lv_iconst (v := (nI 3)) hx hb d_Mo_mix_151 (by decide +kernel) ?_
          refine lv_iushr hx hb d_Mo_mix_152 rfl ?_
          refine lv_topi (fun v_77 _ => ?_)
          refine lv_ixor hx hb d_Mo_mix_153 ?_
          refine lv_topi (fun v_78 _ => ?_)
          refine lv_iadd hx hb d_Mo_mix_154 ?_
          refine lv_topi (fun v_79 _ => ?_)
          refine lv_iload hx hb d_Mo_mix_155 (lv_at hl 0 rfl) ?_
          refine lv_bipush (v := (nI 17)) hx hb d_Mo_mix_157 (by decide +kernel) ?_
          refine k_fini (wr := [(h0, .inr (11, [.ref rn, w1, w2, w3, w4, w5, w6, w7, w8, w9, w10, w11, w12, w13, w14, w15, w16, w17, w18, w19, w20, w21, w22, w23, .ref bl, .ref sh, w26, w27, .ref st, .ref rw, w30, w31, w32, w33])), (bl, .inl (kb, 1200, .inl fb)), (st, .inl (ks, 8, .inl fs)), (rw, .inl (kr, 64, .inl r9)), (sh, .inl (kh, 32, .inl fh)), (rn, .inl (kn, 64, .inl fn))]) [] [0, 1, 2, 3, 4, 5] (k_runS (n := 2) (As := [.int v_68, .int (nI 17)]) (rest := [.int v_79, .int (nI i9), .ref rw]) (wc := []) ⟨hx, hb, hml, hown, hts⟩ (c_Mo_turned l dC dI v_68 (nI 17) _ ) (kg_S m_284 m_285 m_263 (kg_code m_283)) (by decide +kernel) rfl rfl ⟨Nat.le_of_ble_eq_true rfl, Nat.le_of_ble_eq_true rfl⟩ [] [] hP hD hK hS hA hZ hN (by rfl) (by decide) (by rfl) rfl hl.1 rfl (Nat.le_of_ble_eq_true rfl) d_Mo_mix_159 ⟨(Nat.le_of_ble_eq_true rfl), (Nat.le_of_ble_eq_true rfl)⟩) hP hD hK hS hA (by rfl) (by rfl) (by decide) (by decide) (fun r_80 u9 H locs hw_81 hP hD hK hS => ?_)
          try dsimp only at hw_81
          have hP : va_P (dC, dI) CL [(h0, .inr (11, [.ref rn, w1, w2, w3, w4, w5, w6, w7, w8, w9, w10, w11, w12, w13, w14, w15, w16, w17, w18, w19, w20, w21, w22, w23, .ref bl, .ref sh, w26, w27, .ref st, .ref rw, w30, w31, w32, w33])), (bl, .inl (kb, 1200, .inl fb)), (st, .inl (ks, 8, .inl fs)), (rw, .inl (kr, 64, .inl r9)), (sh, .inl (kh, 32, .inl fh)), (rn, .inl (kn, 64, .inl fn))] H := hP
          have hD : va_D A [(h0, .inr (11, [.ref rn, w1, w2, w3, w4, w5, w6, w7, w8, w9, w10, w11, w12, w13, w14, w15, w16, w17, w18, w19, w20, w21, w22, w23, .ref bl, .ref sh, w26, w27, .ref st, .ref rw, w30, w31, w32, w33])), (bl, .inl (kb, 1200, .inl fb)), (st, .inl (ks, 8, .inl fs)), (rw, .inl (kr, 64, .inl r9)), (sh, .inl (kh, 32, .inl fh)), (rn, .inl (kn, 64, .inl fn))] := hD
          have hK : va_K (dC, dI) CL [(kb, .byte), (ks, .int), (kr, .int), (kh, .byte), (kn, .int)] s := hK
          refine lv_iload hx hb d_Mo_mix_162 (lv_at hl 0 rfl) ?_
          refine lv_bipush (v := (nI 19)) hx hb d_Mo_mix_164 (by decide +kernel) ?_
          refine k_fini (wr := [(h0, .inr (11, [.ref rn, w1, w2, w3, w4, w5, w6, w7, w8, w9, w10, w11, w12, w13, w14, w15, w16, w17, w18, w19, w20, w21, w22, w23, .ref bl, .ref sh, w26, w27, .ref st, .ref rw, w30, w31, w32, w33])), (bl, .inl (kb, 1200, .inl fb)), (st, .inl (ks, 8, .inl fs)), (rw, .inl (kr, 64, .inl r9)), (sh, .inl (kh, 32, .inl fh)), (rn, .inl (kn, 64, .inl fn))]) [] [0, 1, 2, 3, 4, 5] (k_runS (n := 2) (As := [.int v_68, .int (nI 19)]) (rest := [.int r_80, .int v_79, .int (nI i9), .ref rw]) (wc := []) ⟨hx, hb, hml, hown, hts⟩ (c_Mo_turned l dC dI v_68 (nI 19) _ ) (kg_S m_284 m_285 m_263 (kg_code m_283)) (by decide +kernel) rfl rfl ⟨Nat.le_of_ble_eq_true rfl, Nat.le_of_ble_eq_true rfl⟩ [] [] hP hD hK hS hA hZ hN (by rfl) (by decide) (by rfl) rfl hl.1 rfl (Nat.le_of_ble_eq_true rfl) d_Mo_mix_166 ⟨(Nat.le_of_ble_eq_true rfl), (Nat.le_of_ble_eq_true rfl)⟩) hP hD hK hS hA (by rfl) (by rfl) (by decide) (by decide) (fun r_82 u9 H locs hw_83 hP hD hK hS => ?_)
          try dsimp only at hw_83
          have hP : va_P (dC, dI) CL [(h0, .inr (11, [.ref rn, w1, w2, w3, w4, w5, w6, w7, w8, w9, w10, w11, w12, w13, w14, w15, w16, w17, w18, w19, w20, w21, w22, w23, .ref bl, .ref sh, w26, w27, .ref st, .ref rw, w30, w31, w32, w33])), (bl, .inl (kb, 1200, .inl fb)), (st, .inl (ks, 8, .inl fs)), (rw, .inl (kr, 64, .inl r9)), (sh, .inl (kh, 32, .inl fh)), (rn, .inl (kn, 64, .inl fn))] H := hP
          have hD : va_D A [(h0, .inr (11, [.ref rn, w1, w2, w3, w4, w5, w6, w7, w8, w9, w10, w11, w12, w13, w14, w15, w16, w17, w18, w19, w20, w21, w22, w23, .ref bl, .ref sh, w26, w27, .ref st, .ref rw, w30, w31, w32, w33])), (bl, .inl (kb, 1200, .inl fb)), (st, .inl (ks, 8, .inl fs)), (rw, .inl (kr, 64, .inl r9)), (sh, .inl (kh, 32, .inl fh)), (rn, .inl (kn, 64, .inl fn))] := hD
          have hK : va_K (dC, dI) CL [(kb, .byte), (ks, .int), (kr, .int), (kh, .byte), (kn, .int)] s := hK
          refine lv_ixor hx hb d_Mo_mix_169 ?_
          refine lv_topi (fun v_84 _ => ?_)
          refine lv_iload hx hb d_Mo_mix_170 (lv_at hl 0 rfl) ?_
          refine lv_bipush (v := (nI 10)) hx hb d_Mo_mix_172 (by decide +kernel) ?_
          refine lv_iushr hx hb d_Mo_mix_174 rfl ?_
          refine lv_topi (fun v_85 _ => ?_)
          refine lv_ixor hx hb d_Mo_mix_175 ?_
          refine lv_topi (fun v_86 _ => ?_)
          refine lv_iadd hx hb d_Mo_mix_176 ?_
          refine lv_topi (fun v_87 _ => ?_)
          refine kv_iast hx hb hK hP hD hS 3 2 rfl rfl (by omega) (by omega) d_Mo_mix_177 (fun H locs g_88 _ hP hD hS => ?_)
          have hP : va_P (dC, dI) CL [(h0, .inr (11, [.ref rn, w1, w2, w3, w4, w5, w6, w7, w8, w9, w10, w11, w12, w13, w14, w15, w16, w17, w18, w19, w20, w21, w22, w23, .ref bl, .ref sh, w26, w27, .ref st, .ref rw, w30, w31, w32, w33])), (bl, .inl (kb, 1200, .inl fb)), (st, .inl (ks, 8, .inl fs)), (rw, .inl (kr, 64, .inl g_88)), (sh, .inl (kh, 32, .inl fh)), (rn, .inl (kn, 64, .inl fn))] H := hP
          have hD : va_D A [(h0, .inr (11, [.ref rn, w1, w2, w3, w4, w5, w6, w7, w8, w9, w10, w11, w12, w13, w14, w15, w16, w17, w18, w19, w20, w21, w22, w23, .ref bl, .ref sh, w26, w27, .ref st, .ref rw, w30, w31, w32, w33])), (bl, .inl (kb, 1200, .inl fb)), (st, .inl (ks, 8, .inl fs)), (rw, .inl (kr, 64, .inl g_88)), (sh, .inl (kh, 32, .inl fh)), (rn, .inl (kn, 64, .inl fn))] := hD
          refine lv_iinc (v := (nI (i9 + 1))) (lv' := [(2, .int (nI (i9 + 1))), (4, .int v_68), (3, .int v_67), (0, .ref h0), (1, .int (nI 0))]) hx hb d_Mo_mix_178 hl (k := 4) rfl (k_inc _) (by decide) rfl (fun ls hl => ?_)
          refine lv_goto (tgt := 2) hx hb d_Mo_mix_181 (by decide) ?_
          exact ih2  (i9 + 1) g_88 _ _ _ (by omega) (by omega) (hP.sub [0, 1, 2, 3, 4, 5] rfl) (hD.sub [0, 1, 2, 3, 4, 5] (by decide) rfl) hS (lv_sub hl [3, 4, 0] rfl)
        · have c11 : ¬ (16 ≤ i9) := fun h => c11 ((nI_leI (by omega) (by omega)).mpr h)
          refine lv_aload_n hx hb d_Mo_mix_14 rfl (lv_at hl 0 rfl) ?_
          refine va_get (D := (dC, dI)) (ci := 11) (v := .ref rw) (C := R_Mo) (T := F_Mo) (N := 34) hx hb hts i_Mo hown hK hP 0 rfl rfl 29 (by decide) (hts _ m_287) (fun _ h9 => h9) rfl d_Mo_mix_15 ?_
          refine lv_iload_n hx hb d_Mo_mix_18 rfl (lv_at hl 2 rfl) ?_
          refine lv_aload_n hx hb d_Mo_mix_19 rfl (lv_at hl 0 rfl) ?_
          refine va_get (D := (dC, dI)) (ci := 11) (v := .ref bl) (C := R_Mo) (T := F_Mo) (N := 34) hx hb hts i_Mo hown hK hP 0 rfl rfl 24 (by decide) (hts _ m_288) (fun _ h9 => h9) rfl d_Mo_mix_20 ?_
          refine lv_iload_n hx hb d_Mo_mix_23 rfl (lv_at hl 1 rfl) ?_
          refine lv_iconst (v := (nI 4)) hx hb d_Mo_mix_24 (by decide +kernel) ?_
          refine lv_iload_n hx hb d_Mo_mix_25 rfl (lv_at hl 2 rfl) ?_
          refine lv_imul hx hb d_Mo_mix_26 ?_
          refine ki (v := nI (4 * i9)) (k_mul 4 i9 rfl) ?_
          refine lv_iadd hx hb d_Mo_mix_27 ?_
          refine ki (v := nI (0 + (4 * i9))) (k_add 0 (4 * i9) rfl) ?_
          refine kv_bald hx hb hK hP 1 0 rfl rfl (by omega) (by omega) d_Mo_mix_28 ?_
          refine lv_topi (fun v_89 _ => ?_)
          refine lv_bipush (v := (nI 24)) hx hb d_Mo_mix_29 (by decide +kernel) ?_
          refine lv_ishl hx hb d_Mo_mix_31 ?_
          refine lv_topi (fun v_90 _ => ?_)
          refine lv_aload_n hx hb d_Mo_mix_32 rfl (lv_at hl 0 rfl) ?_
          refine va_get (D := (dC, dI)) (ci := 11) (v := .ref bl) (C := R_Mo) (T := F_Mo) (N := 34) hx hb hts i_Mo hown hK hP 0 rfl rfl 24 (by decide) (hts _ m_288) (fun _ h9 => h9) rfl d_Mo_mix_33 ?_
          refine lv_iload_n hx hb d_Mo_mix_36 rfl (lv_at hl 1 rfl) ?_
          refine lv_iconst (v := (nI 4)) hx hb d_Mo_mix_37 (by decide +kernel) ?_
          refine lv_iload_n hx hb d_Mo_mix_38 rfl (lv_at hl 2 rfl) ?_
          refine lv_imul hx hb d_Mo_mix_39 ?_
          refine ki (v := nI (4 * i9)) (k_mul 4 i9 rfl) ?_
          refine lv_iadd hx hb d_Mo_mix_40 ?_
          refine ki (v := nI (0 + (4 * i9))) (k_add 0 (4 * i9) rfl) ?_
          refine lv_iconst (v := (nI 1)) hx hb d_Mo_mix_41 (by decide +kernel) ?_
          refine lv_iadd hx hb d_Mo_mix_42 ?_
          refine ki (v := nI (0 + (4 * i9) + 1)) (k_add (0 + (4 * i9)) 1 rfl) ?_
          refine kv_bald hx hb hK hP 1 0 rfl rfl (by omega) (by omega) d_Mo_mix_43 ?_
          refine lv_topi (fun v_91 _ => ?_)
          refine lv_sipush (v := (nI 255)) hx hb d_Mo_mix_44 (by decide +kernel) ?_
          refine lv_iand hx hb d_Mo_mix_47 ?_
          refine lv_topi (fun v_92 _ => ?_)
          refine lv_bipush (v := (nI 16)) hx hb d_Mo_mix_48 (by decide +kernel) ?_
          refine lv_ishl hx hb d_Mo_mix_50 ?_
          refine lv_topi (fun v_93 _ => ?_)
          refine lv_ior hx hb d_Mo_mix_51 ?_
          refine lv_topi (fun v_94 _ => ?_)
          refine lv_aload_n hx hb d_Mo_mix_52 rfl (lv_at hl 0 rfl) ?_
          refine va_get (D := (dC, dI)) (ci := 11) (v := .ref bl) (C := R_Mo) (T := F_Mo) (N := 34) hx hb hts i_Mo hown hK hP 0 rfl rfl 24 (by decide) (hts _ m_288) (fun _ h9 => h9) rfl d_Mo_mix_53 ?_
          refine lv_iload_n hx hb d_Mo_mix_56 rfl (lv_at hl 1 rfl) ?_
          refine lv_iconst (v := (nI 4)) hx hb d_Mo_mix_57 (by decide +kernel) ?_
          refine lv_iload_n hx hb d_Mo_mix_58 rfl (lv_at hl 2 rfl) ?_
          refine lv_imul hx hb d_Mo_mix_59 ?_
          refine ki (v := nI (4 * i9)) (k_mul 4 i9 rfl) ?_
          refine lv_iadd hx hb d_Mo_mix_60 ?_
          refine ki (v := nI (0 + (4 * i9))) (k_add 0 (4 * i9) rfl) ?_
          refine lv_iconst (v := (nI 2)) hx hb d_Mo_mix_61 (by decide +kernel) ?_
          refine lv_iadd hx hb d_Mo_mix_62 ?_
          refine ki (v := nI (0 + (4 * i9) + 2)) (k_add (0 + (4 * i9)) 2 rfl) ?_
          refine kv_bald hx hb hK hP 1 0 rfl rfl (by omega) (by omega) d_Mo_mix_63 ?_
          refine lv_topi (fun v_95 _ => ?_)
          refine lv_sipush (v := (nI 255)) hx hb d_Mo_mix_64 (by decide +kernel) ?_
          refine lv_iand hx hb d_Mo_mix_67 ?_
          refine lv_topi (fun v_96 _ => ?_)
          refine lv_bipush (v := (nI 8)) hx hb d_Mo_mix_68 (by decide +kernel) ?_
          refine lv_ishl hx hb d_Mo_mix_70 ?_
          refine lv_topi (fun v_97 _ => ?_)
          refine lv_ior hx hb d_Mo_mix_71 ?_
          refine lv_topi (fun v_98 _ => ?_)
          refine lv_aload_n hx hb d_Mo_mix_72 rfl (lv_at hl 0 rfl) ?_
          refine va_get (D := (dC, dI)) (ci := 11) (v := .ref bl) (C := R_Mo) (T := F_Mo) (N := 34) hx hb hts i_Mo hown hK hP 0 rfl rfl 24 (by decide) (hts _ m_288) (fun _ h9 => h9) rfl d_Mo_mix_73 ?_
          refine lv_iload_n hx hb d_Mo_mix_76 rfl (lv_at hl 1 rfl) ?_
          refine lv_iconst (v := (nI 4)) hx hb d_Mo_mix_77 (by decide +kernel) ?_
          refine lv_iload_n hx hb d_Mo_mix_78 rfl (lv_at hl 2 rfl) ?_
          refine lv_imul hx hb d_Mo_mix_79 ?_
          refine ki (v := nI (4 * i9)) (k_mul 4 i9 rfl) ?_
          refine lv_iadd hx hb d_Mo_mix_80 ?_
          refine ki (v := nI (0 + (4 * i9))) (k_add 0 (4 * i9) rfl) ?_
          refine lv_iconst (v := (nI 3)) hx hb d_Mo_mix_81 (by decide +kernel) ?_
          refine lv_iadd hx hb d_Mo_mix_82 ?_
          refine ki (v := nI (0 + (4 * i9) + 3)) (k_add (0 + (4 * i9)) 3 rfl) ?_
          refine kv_bald hx hb hK hP 1 0 rfl rfl (by omega) (by omega) d_Mo_mix_83 ?_
          refine lv_topi (fun v_99 _ => ?_)
          refine lv_sipush (v := (nI 255)) hx hb d_Mo_mix_84 (by decide +kernel) ?_
          refine lv_iand hx hb d_Mo_mix_87 ?_
          refine lv_topi (fun v_100 _ => ?_)
          refine lv_ior hx hb d_Mo_mix_88 ?_
          refine lv_topi (fun v_101 _ => ?_)
          refine kv_iast hx hb hK hP hD hS 3 2 rfl rfl (by omega) (by omega) d_Mo_mix_89 (fun H locs g_102 _ hP hD hS => ?_)
          have hP : va_P (dC, dI) CL [(h0, .inr (11, [.ref rn, w1, w2, w3, w4, w5, w6, w7, w8, w9, w10, w11, w12, w13, w14, w15, w16, w17, w18, w19, w20, w21, w22, w23, .ref bl, .ref sh, w26, w27, .ref st, .ref rw, w30, w31, w32, w33])), (bl, .inl (kb, 1200, .inl fb)), (st, .inl (ks, 8, .inl fs)), (rw, .inl (kr, 64, .inl g_102)), (sh, .inl (kh, 32, .inl fh)), (rn, .inl (kn, 64, .inl fn))] H := hP
          have hD : va_D A [(h0, .inr (11, [.ref rn, w1, w2, w3, w4, w5, w6, w7, w8, w9, w10, w11, w12, w13, w14, w15, w16, w17, w18, w19, w20, w21, w22, w23, .ref bl, .ref sh, w26, w27, .ref st, .ref rw, w30, w31, w32, w33])), (bl, .inl (kb, 1200, .inl fb)), (st, .inl (ks, 8, .inl fs)), (rw, .inl (kr, 64, .inl g_102)), (sh, .inl (kh, 32, .inl fh)), (rn, .inl (kn, 64, .inl fn))] := hD
          refine lv_goto (tgt := 178) hx hb d_Mo_mix_90 (by decide) ?_
          refine lv_iinc (v := (nI (i9 + 1))) (lv' := [(2, .int (nI (i9 + 1))), (0, .ref h0), (1, .int (nI 0))]) hx hb d_Mo_mix_178 hl (k := 2) rfl (k_inc _) (by decide) rfl (fun ls hl => ?_)
          refine lv_goto (tgt := 2) hx hb d_Mo_mix_181 (by decide) ?_
          exact ih2  (i9 + 1) g_102 _ _ _ (by omega) (by omega) (hP.sub [0, 1, 2, 3, 4, 5] rfl) (hD.sub [0, 1, 2, 3, 4, 5] (by decide) rfl) hS (lv_sub hl [1, 2, 0] rfl)
  exact lb_2 (64 - 0 + 1) 0 fr _ _ _ (Nat.zero_le _) (Nat.lt_succ_self _) (hP.sub [0, 1, 2, 3, 4, 5] rfl) (hD.sub [0, 1, 2, 3, 4, 5] (by decide) rfl) hS (lv_sub hl [1, 2, 0] rfl)

-- ThresholdBenchModel.hash
set_option maxHeartbeats 4000000 in
set_option maxRecDepth 100000 in
theorem c_Mo_hash (l : Launch) (dC : Nat → ClassId) (dI : Nat → Nat → Nat) (h0 : Nat) (bl : Nat) (st : Nat) (rw : Nat) (sh : Nat) (rn : Nat) (kb : ClassId) (ks : ClassId) (kr : ClassId) (kh : ClassId) (kn : ClassId) (fb : Nat → Int32) (fs : Nat → Int32) (fr : Nat → Int32) (fh : Nat → Int32) (fn : Nat → Int32) (w1 : Value) (w2 : Value) (w3 : Value) (w4 : Value) (w5 : Value) (w6 : Value) (w7 : Value) (w8 : Value) (w9 : Value) (w10 : Value) (w11 : Value) (w12 : Value) (w13 : Value) (w14 : Value) (w15 : Value) (w16 : Value) (w17 : Value) (w18 : Value) (w19 : Value) (w20 : Value) (w21 : Value) (w22 : Value) (w23 : Value) (w26 : Value) (w27 : Value) (w30 : Value) (w31 : Value) (w32 : Value) (w33 : Value) (sz : Nat)  : Met l y_Mo_hash (.code y_Mo_hash prog_14_method_27_code 5 (none) :: AW) ({ frames := 2, cells := 0, slots := 0, locals := 53 } : Room) (va_Pc [.ref h0, .int (nI 0)] (pw (dC, dI) CL [(h0, .inr (11, [.ref rn, w1, w2, w3, w4, w5, w6, w7, w8, w9, w10, w11, w12, w13, w14, w15, w16, w17, w18, w19, w20, w21, w22, w23, .ref bl, .ref sh, w26, w27, .ref st, .ref rw, w30, w31, w32, w33])), (bl, .inl (kb, 1200, .inl fb)), (st, .inl (ks, 8, .inl fs)), (rw, .inl (kr, 64, .inl fr)), (sh, .inl (kh, 32, .inl fh)), (rn, .inl (kn, 64, .inl fn))] [(kb, .byte), (ks, .int), (kr, .int), (kh, .byte), (kn, .int)] sz)) (va_Qv (fun u : (Nat → Int32) × (Nat → Int32) × (Nat → Int32) × (Nat → Int32) => True) (fun (u : (Nat → Int32) × (Nat → Int32) × (Nat → Int32) × (Nat → Int32)) t => qw (dC, dI) CL (va_A [(h0, .inr (11, [.ref rn, w1, w2, w3, w4, w5, w6, w7, w8, w9, w10, w11, w12, w13, w14, w15, w16, w17, w18, w19, w20, w21, w22, w23, .ref bl, .ref sh, w26, w27, .ref st, .ref rw, w30, w31, w32, w33])), (bl, .inl (kb, 1200, .inl fb)), (st, .inl (ks, 8, .inl fs)), (rw, .inl (kr, 64, .inl fr)), (sh, .inl (kh, 32, .inl fh)), (rn, .inl (kn, 64, .inl fn))] sz) ((fun u : (Nat → Int32) × (Nat → Int32) × (Nat → Int32) × (Nat → Int32) => [(h0, .inr (11, [.ref rn, w1, w2, w3, w4, w5, w6, w7, w8, w9, w10, w11, w12, w13, w14, w15, w16, w17, w18, w19, w20, w21, w22, w23, .ref bl, .ref sh, w26, w27, .ref st, .ref rw, w30, w31, w32, w33])), (bl, .inl (kb, 1200, .inl u.1)), (st, .inl (ks, 8, .inl u.2.1)), (rw, .inl (kr, 64, .inl u.2.2.1)), (sh, .inl (kh, 32, .inl u.2.2.2)), (rn, .inl (kn, 64, .inl fn))]) u) ((fun u : (Nat → Int32) × (Nat → Int32) × (Nat → Int32) × (Nat → Int32) => []) u) t) (va_A [(h0, .inr (11, [.ref rn, w1, w2, w3, w4, w5, w6, w7, w8, w9, w10, w11, w12, w13, w14, w15, w16, w17, w18, w19, w20, w21, w22, w23, .ref bl, .ref sh, w26, w27, .ref st, .ref rw, w30, w31, w32, w33])), (bl, .inl (kb, 1200, .inl fb)), (st, .inl (ks, 8, .inl fs)), (rw, .inl (kr, 64, .inl fr)), (sh, .inl (kh, 32, .inl fh)), (rn, .inl (kn, 64, .inl fn))] sz)) 0 0 (va_A [(h0, .inr (11, [.ref rn, w1, w2, w3, w4, w5, w6, w7, w8, w9, w10, w11, w12, w13, w14, w15, w16, w17, w18, w19, w20, w21, w22, w23, .ref bl, .ref sh, w26, w27, .ref st, .ref rw, w30, w31, w32, w33])), (bl, .inl (kb, 1200, .inl fb)), (st, .inl (ks, 8, .inl fs)), (rw, .inl (kr, 64, .inl fr)), (sh, .inl (kh, 32, .inl fh)), (rn, .inl (kn, 64, .inl fn))] sz) := by
  refine Met.ofW (cc := prog_14_method_27_code) (maxL := 5) (ret := none) (by decide) rfl ?_
  intro p e s m args below meth c s₁ B hml hv
  obtain ⟨rfl, hsz, hP, hK, hD0, hZ, hN⟩ := hv
  have hx := B.exec
  have hb := B.bytes
  have hr := B.returns
  have hts := kw (atoms_spec (ws := .code y_Mo_hash prog_14_method_27_code 5 (none) :: AW) B.pre)
  have hown : s.vm.findClass R_Mo = some m.cls := findClass_of_methodNamed B.named
  have hlocks := B.notSynchronized
  subst hsz
  have hD := hD0.self (sz := s.heap.size)
  obtain ⟨Qg, hQg⟩ : ∃ q, q = MQ below (va_Qv (fun u : (Nat → Int32) × (Nat → Int32) × (Nat → Int32) × (Nat → Int32) => True) (fun (u : (Nat → Int32) × (Nat → Int32) × (Nat → Int32) × (Nat → Int32)) t => qw (dC, dI) CL (va_A [(h0, .inr (11, [.ref rn, w1, w2, w3, w4, w5, w6, w7, w8, w9, w10, w11, w12, w13, w14, w15, w16, w17, w18, w19, w20, w21, w22, w23, .ref bl, .ref sh, w26, w27, .ref st, .ref rw, w30, w31, w32, w33])), (bl, .inl (kb, 1200, .inl fb)), (st, .inl (ks, 8, .inl fs)), (rw, .inl (kr, 64, .inl fr)), (sh, .inl (kh, 32, .inl fh)), (rn, .inl (kn, 64, .inl fn))] s.heap.size) ((fun u : (Nat → Int32) × (Nat → Int32) × (Nat → Int32) × (Nat → Int32) => [(h0, .inr (11, [.ref rn, w1, w2, w3, w4, w5, w6, w7, w8, w9, w10, w11, w12, w13, w14, w15, w16, w17, w18, w19, w20, w21, w22, w23, .ref bl, .ref sh, w26, w27, .ref st, .ref rw, w30, w31, w32, w33])), (bl, .inl (kb, 1200, .inl u.1)), (st, .inl (ks, 8, .inl u.2.1)), (rw, .inl (kr, 64, .inl u.2.2.1)), (sh, .inl (kh, 32, .inl u.2.2.2)), (rn, .inl (kn, 64, .inl fn))]) u) ((fun u : (Nat → Int32) × (Nat → Int32) × (Nat → Int32) × (Nat → Int32) => []) u) t) (va_A [(h0, .inr (11, [.ref rn, w1, w2, w3, w4, w5, w6, w7, w8, w9, w10, w11, w12, w13, w14, w15, w16, w17, w18, w19, w20, w21, w22, w23, .ref bl, .ref sh, w26, w27, .ref st, .ref rw, w30, w31, w32, w33])), (bl, .inl (kb, 1200, .inl fb)), (st, .inl (ks, 8, .inl fs)), (rw, .inl (kr, 64, .inl fr)), (sh, .inl (kh, 32, .inl fh)), (rn, .inl (kn, 64, .inl fn))] s.heap.size)) ([.ref h0, .int (nI 0)] : List Value).toArray s 0 0 (va_A [(h0, .inr (11, [.ref rn, w1, w2, w3, w4, w5, w6, w7, w8, w9, w10, w11, w12, w13, w14, w15, w16, w17, w18, w19, w20, w21, w22, w23, .ref bl, .ref sh, w26, w27, .ref st, .ref rw, w30, w31, w32, w33])), (bl, .inl (kb, 1200, .inl fb)), (st, .inl (ks, 8, .inl fs)), (rw, .inl (kr, 64, .inl fr)), (sh, .inl (kh, 32, .inl fh)), (rn, .inl (kn, 64, .inl fn))] s.heap.size) := ⟨_, rfl⟩
  rw [← hQg]
  generalize hAe : va_A [(h0, .inr (11, [.ref rn, w1, w2, w3, w4, w5, w6, w7, w8, w9, w10, w11, w12, w13, w14, w15, w16, w17, w18, w19, w20, w21, w22, w23, .ref bl, .ref sh, w26, w27, .ref st, .ref rw, w30, w31, w32, w33])), (bl, .inl (kb, 1200, .inl fb)), (st, .inl (ks, 8, .inl fs)), (rw, .inl (kr, 64, .inl fr)), (sh, .inl (kh, 32, .inl fh)), (rn, .inl (kn, 64, .inl fn))] s.heap.size = A at hD hZ hQg
  have hA : ∀ q : Nat, s.heap.size ≤ q → A q := fun q h => by rw [← hAe]; exact Or.inr h
  have hS : va_S A s.heap s.heap [] := va_S.rf
  have hP : va_P (dC, dI) CL [(h0, .inr (11, [.ref rn, w1, w2, w3, w4, w5, w6, w7, w8, w9, w10, w11, w12, w13, w14, w15, w16, w17, w18, w19, w20, w21, w22, w23, .ref bl, .ref sh, w26, w27, .ref st, .ref rw, w30, w31, w32, w33])), (bl, .inl (kb, 1200, .inl fb)), (st, .inl (ks, 8, .inl fs)), (rw, .inl (kr, 64, .inl fr)), (sh, .inl (kh, 32, .inl fh)), (rn, .inl (kn, 64, .inl fn))] s.heap := hP
  have hl := lv_entry ([.ref h0, .int (nI 0)]) (n := 5) (Nat.le_of_ble_eq_true rfl)
  rw [lg_entry_eq]
  generalize (lg_sl ([.ref h0, .int (nI 0)]) ++ List.replicate (5 - (lg_sl ([.ref h0, .int (nI 0)])).length) Slot.unset).toArray = ls at hl ⊢
  have hl : lv_has ls 5 [(0, .ref h0), (1, .int (nI 0))] := hl
  show W p l e ({ frames := 2, cells := 0, slots := 0, locals := 53 } : Room) s m ([.ref h0, .int (nI 0)] : List Value).toArray below meth c s.heap [] 0 0 Qg (F0 m 0 ls [])
  refine lv_iload_n hx hb d_Mo_hash_0 rfl (lv_at hl 1 rfl) ?_
  refine lv_bipush (v := (nI 72)) hx hb d_Mo_hash_1 (by decide +kernel) ?_
  refine lv_iadd hx hb d_Mo_hash_3 ?_
  refine ki (v := nI 72) (k_add 0 72 rfl) ?_
  refine lv_bipush (v := (nI 64)) hx hb d_Mo_hash_4 (by decide +kernel) ?_
  refine lv_idiv hx hb d_Mo_hash_6 (by decide) ?_
  refine ki (v := nI 1) (pk_div (by omega) (by decide) (by decide)) ?_
  refine lv_bipush (v := (nI 64)) hx hb d_Mo_hash_7 (by decide +kernel) ?_
  refine lv_imul hx hb d_Mo_hash_9 ?_
  refine ki (v := nI 64) (k_mul 1 64 rfl) ?_
  refine lv_istore_n (lv' := [(2, .int (nI 64)), (0, .ref h0), (1, .int (nI 0))]) hx hb d_Mo_hash_10 rfl hl (by decide) rfl (fun ls hl => ?_)
  refine lv_iload_n hx hb d_Mo_hash_11 rfl (lv_at hl 2 rfl) ?_
  refine lv_istore_n (lv' := [(3, .int (nI 0)), (2, .int (nI 64)), (0, .ref h0), (1, .int (nI 0))]) hx hb d_Mo_hash_12 rfl hl (by decide) rfl (fun ls hl => ?_)
  have lb_13 : ∀ (n9 : Nat) (i9 : Nat) (b9 : Nat → Int32) (H : Heap) (locs : List Loc) (ls : Array Slot), (i9 ≤ 64) → (64 - i9 < n9) → va_P (dC, dI) CL [(h0, .inr (11, [.ref rn, w1, w2, w3, w4, w5, w6, w7, w8, w9, w10, w11, w12, w13, w14, w15, w16, w17, w18, w19, w20, w21, w22, w23, .ref bl, .ref sh, w26, w27, .ref st, .ref rw, w30, w31, w32, w33])), (bl, .inl (kb, 1200, .inl b9)), (st, .inl (ks, 8, .inl fs)), (rw, .inl (kr, 64, .inl fr)), (sh, .inl (kh, 32, .inl fh)), (rn, .inl (kn, 64, .inl fn))] H → va_D A [(h0, .inr (11, [.ref rn, w1, w2, w3, w4, w5, w6, w7, w8, w9, w10, w11, w12, w13, w14, w15, w16, w17, w18, w19, w20, w21, w22, w23, .ref bl, .ref sh, w26, w27, .ref st, .ref rw, w30, w31, w32, w33])), (bl, .inl (kb, 1200, .inl b9)), (st, .inl (ks, 8, .inl fs)), (rw, .inl (kr, 64, .inl fr)), (sh, .inl (kh, 32, .inl fh)), (rn, .inl (kn, 64, .inl fn))] → va_S A s.heap H locs → lv_has ls 5 [(0, .ref h0), (1, .int (nI 0)), (2, .int (nI 64)), (3, .int (nI i9))] → W p l e ({ frames := 2, cells := 0, slots := 0, locals := 53 } : Room) s m ([.ref h0, .int (nI 0)] : List Value).toArray below meth c H locs 0 0 Qg (F0 m 13 ls []) := by
    intro n9
    induction n9 with
    | zero => intro i9 b9 H locs ls hi9 hm9; exact absurd hm9 (Nat.not_lt_zero _)
    | succ n9 ih13 =>
      intro i9 b9 H locs ls hi9 hm13 hP hD hS hl
      refine lv_iload_n hx hb d_Mo_hash_13 rfl (lv_at hl 3 rfl) ?_
      refine lv_iload_n hx hb d_Mo_hash_14 rfl (lv_at hl 2 rfl) ?_
      refine lv_icmp_ge (tgt := 66) hx hb d_Mo_hash_15 (by decide) (fun c15 => ?_) (fun c15 => ?_)
      · have c15 : 64 ≤ i9 := (nI_leI (by omega) (by omega)).mp c15
        refine lv_aload_n hx hb d_Mo_hash_66 rfl (lv_at hl 0 rfl) ?_
        refine va_get (D := (dC, dI)) (ci := 11) (v := .ref st) (C := R_Mo) (T := F_Mo) (N := 34) hx hb hts i_Mo hown hK hP 0 rfl rfl 28 (by decide) (hts _ m_282) (fun _ h9 => h9) rfl d_Mo_hash_67 ?_
        refine lv_astore_n (lv' := [(3, .ref st), (0, .ref h0), (1, .int (nI 0)), (2, .int (nI 64))]) hx hb d_Mo_hash_70 rfl hl (by decide) rfl (fun ls hl => ?_)
        refine lv_aload_n hx hb d_Mo_hash_71 rfl (lv_at hl 0 rfl) ?_
        refine lv_iconst (v := (nI 0)) hx hb d_Mo_hash_72 (by decide +kernel) ?_
        refine lv_ldc (v := (1779033703)) hx hb hown (hts _ m_289) d_Mo_hash_73 ?_
        refine kv_iast hx hb hK hP hD hS 2 1 rfl rfl (by omega) (by omega) d_Mo_hash_75 (fun H locs g_1 _ hP hD hS => ?_)
        have hP : va_P (dC, dI) CL [(h0, .inr (11, [.ref rn, w1, w2, w3, w4, w5, w6, w7, w8, w9, w10, w11, w12, w13, w14, w15, w16, w17, w18, w19, w20, w21, w22, w23, .ref bl, .ref sh, w26, w27, .ref st, .ref rw, w30, w31, w32, w33])), (bl, .inl (kb, 1200, .inl b9)), (st, .inl (ks, 8, .inl g_1)), (rw, .inl (kr, 64, .inl fr)), (sh, .inl (kh, 32, .inl fh)), (rn, .inl (kn, 64, .inl fn))] H := hP
        have hD : va_D A [(h0, .inr (11, [.ref rn, w1, w2, w3, w4, w5, w6, w7, w8, w9, w10, w11, w12, w13, w14, w15, w16, w17, w18, w19, w20, w21, w22, w23, .ref bl, .ref sh, w26, w27, .ref st, .ref rw, w30, w31, w32, w33])), (bl, .inl (kb, 1200, .inl b9)), (st, .inl (ks, 8, .inl g_1)), (rw, .inl (kr, 64, .inl fr)), (sh, .inl (kh, 32, .inl fh)), (rn, .inl (kn, 64, .inl fn))] := hD
        refine lv_aload_n hx hb d_Mo_hash_76 rfl (lv_at hl 0 rfl) ?_
        refine lv_iconst (v := (nI 1)) hx hb d_Mo_hash_77 (by decide +kernel) ?_
        refine lv_ldc (v := (-1150833019)) hx hb hown (hts _ m_290) d_Mo_hash_78 ?_
        refine kv_iast hx hb hK hP hD hS 2 1 rfl rfl (by omega) (by omega) d_Mo_hash_80 (fun H locs g_2 _ hP hD hS => ?_)
        have hP : va_P (dC, dI) CL [(h0, .inr (11, [.ref rn, w1, w2, w3, w4, w5, w6, w7, w8, w9, w10, w11, w12, w13, w14, w15, w16, w17, w18, w19, w20, w21, w22, w23, .ref bl, .ref sh, w26, w27, .ref st, .ref rw, w30, w31, w32, w33])), (bl, .inl (kb, 1200, .inl b9)), (st, .inl (ks, 8, .inl g_2)), (rw, .inl (kr, 64, .inl fr)), (sh, .inl (kh, 32, .inl fh)), (rn, .inl (kn, 64, .inl fn))] H := hP
        have hD : va_D A [(h0, .inr (11, [.ref rn, w1, w2, w3, w4, w5, w6, w7, w8, w9, w10, w11, w12, w13, w14, w15, w16, w17, w18, w19, w20, w21, w22, w23, .ref bl, .ref sh, w26, w27, .ref st, .ref rw, w30, w31, w32, w33])), (bl, .inl (kb, 1200, .inl b9)), (st, .inl (ks, 8, .inl g_2)), (rw, .inl (kr, 64, .inl fr)), (sh, .inl (kh, 32, .inl fh)), (rn, .inl (kn, 64, .inl fn))] := hD
        refine lv_aload_n hx hb d_Mo_hash_81 rfl (lv_at hl 0 rfl) ?_
        refine lv_iconst (v := (nI 2)) hx hb d_Mo_hash_82 (by decide +kernel) ?_
        refine lv_ldc (v := (1013904242)) hx hb hown (hts _ m_291) d_Mo_hash_83 ?_
        refine kv_iast hx hb hK hP hD hS 2 1 rfl rfl (by omega) (by omega) d_Mo_hash_85 (fun H locs g_3 _ hP hD hS => ?_)
        have hP : va_P (dC, dI) CL [(h0, .inr (11, [.ref rn, w1, w2, w3, w4, w5, w6, w7, w8, w9, w10, w11, w12, w13, w14, w15, w16, w17, w18, w19, w20, w21, w22, w23, .ref bl, .ref sh, w26, w27, .ref st, .ref rw, w30, w31, w32, w33])), (bl, .inl (kb, 1200, .inl b9)), (st, .inl (ks, 8, .inl g_3)), (rw, .inl (kr, 64, .inl fr)), (sh, .inl (kh, 32, .inl fh)), (rn, .inl (kn, 64, .inl fn))] H := hP
        have hD : va_D A [(h0, .inr (11, [.ref rn, w1, w2, w3, w4, w5, w6, w7, w8, w9, w10, w11, w12, w13, w14, w15, w16, w17, w18, w19, w20, w21, w22, w23, .ref bl, .ref sh, w26, w27, .ref st, .ref rw, w30, w31, w32, w33])), (bl, .inl (kb, 1200, .inl b9)), (st, .inl (ks, 8, .inl g_3)), (rw, .inl (kr, 64, .inl fr)), (sh, .inl (kh, 32, .inl fh)), (rn, .inl (kn, 64, .inl fn))] := hD
        refine lv_aload_n hx hb d_Mo_hash_86 rfl (lv_at hl 0 rfl) ?_
        refine lv_iconst (v := (nI 3)) hx hb d_Mo_hash_87 (by decide +kernel) ?_
        refine lv_ldc (v := (-1521486534)) hx hb hown (hts _ m_292) d_Mo_hash_88 ?_
        refine kv_iast hx hb hK hP hD hS 2 1 rfl rfl (by omega) (by omega) d_Mo_hash_90 (fun H locs g_4 _ hP hD hS => ?_)
        have hP : va_P (dC, dI) CL [(h0, .inr (11, [.ref rn, w1, w2, w3, w4, w5, w6, w7, w8, w9, w10, w11, w12, w13, w14, w15, w16, w17, w18, w19, w20, w21, w22, w23, .ref bl, .ref sh, w26, w27, .ref st, .ref rw, w30, w31, w32, w33])), (bl, .inl (kb, 1200, .inl b9)), (st, .inl (ks, 8, .inl g_4)), (rw, .inl (kr, 64, .inl fr)), (sh, .inl (kh, 32, .inl fh)), (rn, .inl (kn, 64, .inl fn))] H := hP
        have hD : va_D A [(h0, .inr (11, [.ref rn, w1, w2, w3, w4, w5, w6, w7, w8, w9, w10, w11, w12, w13, w14, w15, w16, w17, w18, w19, w20, w21, w22, w23, .ref bl, .ref sh, w26, w27, .ref st, .ref rw, w30, w31, w32, w33])), (bl, .inl (kb, 1200, .inl b9)), (st, .inl (ks, 8, .inl g_4)), (rw, .inl (kr, 64, .inl fr)), (sh, .inl (kh, 32, .inl fh)), (rn, .inl (kn, 64, .inl fn))] := hD
        refine lv_aload_n hx hb d_Mo_hash_91 rfl (lv_at hl 0 rfl) ?_
        refine lv_iconst (v := (nI 4)) hx hb d_Mo_hash_92 (by decide +kernel) ?_
        refine lv_ldc (v := (1359893119)) hx hb hown (hts _ m_293) d_Mo_hash_93 ?_
        refine kv_iast hx hb hK hP hD hS 2 1 rfl rfl (by omega) (by omega) d_Mo_hash_95 (fun H locs g_5 _ hP hD hS => ?_)
        have hP : va_P (dC, dI) CL [(h0, .inr (11, [.ref rn, w1, w2, w3, w4, w5, w6, w7, w8, w9, w10, w11, w12, w13, w14, w15, w16, w17, w18, w19, w20, w21, w22, w23, .ref bl, .ref sh, w26, w27, .ref st, .ref rw, w30, w31, w32, w33])), (bl, .inl (kb, 1200, .inl b9)), (st, .inl (ks, 8, .inl g_5)), (rw, .inl (kr, 64, .inl fr)), (sh, .inl (kh, 32, .inl fh)), (rn, .inl (kn, 64, .inl fn))] H := hP
        have hD : va_D A [(h0, .inr (11, [.ref rn, w1, w2, w3, w4, w5, w6, w7, w8, w9, w10, w11, w12, w13, w14, w15, w16, w17, w18, w19, w20, w21, w22, w23, .ref bl, .ref sh, w26, w27, .ref st, .ref rw, w30, w31, w32, w33])), (bl, .inl (kb, 1200, .inl b9)), (st, .inl (ks, 8, .inl g_5)), (rw, .inl (kr, 64, .inl fr)), (sh, .inl (kh, 32, .inl fh)), (rn, .inl (kn, 64, .inl fn))] := hD
        refine lv_aload_n hx hb d_Mo_hash_96 rfl (lv_at hl 0 rfl) ?_
        refine lv_iconst (v := (nI 5)) hx hb d_Mo_hash_97 (by decide +kernel) ?_
        refine lv_ldc (v := (-1694144372)) hx hb hown (hts _ m_294) d_Mo_hash_98 ?_
        refine kv_iast hx hb hK hP hD hS 2 1 rfl rfl (by omega) (by omega) d_Mo_hash_100 (fun H locs g_6 _ hP hD hS => ?_)
        have hP : va_P (dC, dI) CL [(h0, .inr (11, [.ref rn, w1, w2, w3, w4, w5, w6, w7, w8, w9, w10, w11, w12, w13, w14, w15, w16, w17, w18, w19, w20, w21, w22, w23, .ref bl, .ref sh, w26, w27, .ref st, .ref rw, w30, w31, w32, w33])), (bl, .inl (kb, 1200, .inl b9)), (st, .inl (ks, 8, .inl g_6)), (rw, .inl (kr, 64, .inl fr)), (sh, .inl (kh, 32, .inl fh)), (rn, .inl (kn, 64, .inl fn))] H := hP
        have hD : va_D A [(h0, .inr (11, [.ref rn, w1, w2, w3, w4, w5, w6, w7, w8, w9, w10, w11, w12, w13, w14, w15, w16, w17, w18, w19, w20, w21, w22, w23, .ref bl, .ref sh, w26, w27, .ref st, .ref rw, w30, w31, w32, w33])), (bl, .inl (kb, 1200, .inl b9)), (st, .inl (ks, 8, .inl g_6)), (rw, .inl (kr, 64, .inl fr)), (sh, .inl (kh, 32, .inl fh)), (rn, .inl (kn, 64, .inl fn))] := hD
        refine lv_aload_n hx hb d_Mo_hash_101 rfl (lv_at hl 0 rfl) ?_
        refine lv_bipush (v := (nI 6)) hx hb d_Mo_hash_102 (by decide +kernel) ?_
        refine lv_ldc (v := (528734635)) hx hb hown (hts _ m_295) d_Mo_hash_104 ?_
        refine kv_iast hx hb hK hP hD hS 2 1 rfl rfl (by omega) (by omega) d_Mo_hash_106 (fun H locs g_7 _ hP hD hS => ?_)
        have hP : va_P (dC, dI) CL [(h0, .inr (11, [.ref rn, w1, w2, w3, w4, w5, w6, w7, w8, w9, w10, w11, w12, w13, w14, w15, w16, w17, w18, w19, w20, w21, w22, w23, .ref bl, .ref sh, w26, w27, .ref st, .ref rw, w30, w31, w32, w33])), (bl, .inl (kb, 1200, .inl b9)), (st, .inl (ks, 8, .inl g_7)), (rw, .inl (kr, 64, .inl fr)), (sh, .inl (kh, 32, .inl fh)), (rn, .inl (kn, 64, .inl fn))] H := hP
        have hD : va_D A [(h0, .inr (11, [.ref rn, w1, w2, w3, w4, w5, w6, w7, w8, w9, w10, w11, w12, w13, w14, w15, w16, w17, w18, w19, w20, w21, w22, w23, .ref bl, .ref sh, w26, w27, .ref st, .ref rw, w30, w31, w32, w33])), (bl, .inl (kb, 1200, .inl b9)), (st, .inl (ks, 8, .inl g_7)), (rw, .inl (kr, 64, .inl fr)), (sh, .inl (kh, 32, .inl fh)), (rn, .inl (kn, 64, .inl fn))] := hD
        refine lv_aload_n hx hb d_Mo_hash_107 rfl (lv_at hl 0 rfl) ?_
        refine lv_bipush (v := (nI 7)) hx hb d_Mo_hash_108 (by decide +kernel) ?_
        refine lv_ldc (v := (1541459225)) hx hb hown (hts _ m_296) d_Mo_hash_110 ?_
        refine kv_iast hx hb hK hP hD hS 2 1 rfl rfl (by omega) (by omega) d_Mo_hash_112 (fun H locs g_8 _ hP hD hS => ?_)
        have hP : va_P (dC, dI) CL [(h0, .inr (11, [.ref rn, w1, w2, w3, w4, w5, w6, w7, w8, w9, w10, w11, w12, w13, w14, w15, w16, w17, w18, w19, w20, w21, w22, w23, .ref bl, .ref sh, w26, w27, .ref st, .ref rw, w30, w31, w32, w33])), (bl, .inl (kb, 1200, .inl b9)), (st, .inl (ks, 8, .inl g_8)), (rw, .inl (kr, 64, .inl fr)), (sh, .inl (kh, 32, .inl fh)), (rn, .inl (kn, 64, .inl fn))] H := hP
        have hD : va_D A [(h0, .inr (11, [.ref rn, w1, w2, w3, w4, w5, w6, w7, w8, w9, w10, w11, w12, w13, w14, w15, w16, w17, w18, w19, w20, w21, w22, w23, .ref bl, .ref sh, w26, w27, .ref st, .ref rw, w30, w31, w32, w33])), (bl, .inl (kb, 1200, .inl b9)), (st, .inl (ks, 8, .inl g_8)), (rw, .inl (kr, 64, .inl fr)), (sh, .inl (kh, 32, .inl fh)), (rn, .inl (kn, 64, .inl fn))] := hD
        refine lv_iconst (v := (nI 0)) hx hb d_Mo_hash_113 (by decide +kernel) ?_
        refine lv_istore (lv' := [(4, .int (nI 0)), (3, .ref st), (0, .ref h0), (1, .int (nI 0)), (2, .int (nI 64))]) hx hb d_Mo_hash_114 hl (by decide) rfl (fun ls hl => ?_)
        refine lv_iload hx hb d_Mo_hash_116 (lv_at hl 0 rfl) ?_
        refine lv_iload_n hx hb d_Mo_hash_118 rfl (lv_at hl 4 rfl) ?_
        refine lv_icmp_ge (tgt := 134) hx hb d_Mo_hash_119 (by decide) (fun c119 => absurd c119 (by decide)) (fun c119 => ?_)
        refine lv_aload_n hx hb d_Mo_hash_122 rfl (lv_at hl 2 rfl) ?_
        refine lv_iload hx hb d_Mo_hash_123 (lv_at hl 0 rfl) ?_
        refine k_finv (wr := []) [0, 1, 2, 3, 4, 5] [] (k_runV (n := 1) (As := [.int (nI 0)]) (rest := []) (wc := [(h0, .inr (11, [.ref rn, w1, w2, w3, w4, w5, w6, w7, w8, w9, w10, w11, w12, w13, w14, w15, w16, w17, w18, w19, w20, w21, w22, w23, .ref bl, .ref sh, w26, w27, .ref st, .ref rw, w30, w31, w32, w33])), (bl, .inl (kb, 1200, .inl b9)), (st, .inl (ks, 8, .inl g_8)), (rw, .inl (kr, 64, .inl fr)), (sh, .inl (kh, 32, .inl fh)), (rn, .inl (kn, 64, .inl fn))]) ⟨hx, hb, hml, hown, hts⟩ (c_Mo_mix l dC dI h0 bl st rw sh rn kb ks kr kh kn b9 g_8 fr fh fn w1 w2 w3 w4 w5 w6 w7 w8 w9 w10 w11 w12 w13 w14 w15 w16 w17 w18 w19 w20 w21 w22 w23 w26 w27 w30 w31 w32 w33 _ ) (kg_V m_298 m_299 m_300 m_263 (kg_code m_297)) (by decide +kernel) rfl rfl ⟨Nat.le_of_ble_eq_true rfl, Nat.le_of_ble_eq_true rfl⟩ [0, 1, 2, 3, 4, 5] [0, 1, 2, 3, 4] hP hD hK hS hA hZ hN (by rfl) (by decide) (by rfl) rfl rfl rfl rfl hl.1 rfl (Nat.le_of_ble_eq_true rfl) d_Mo_hash_125 ⟨(Nat.le_of_ble_eq_true rfl), (Nat.le_of_ble_eq_true rfl)⟩) hP hD hK hS hA (by rfl) (by rfl) (by decide) (by decide) (fun u9 H locs hw_12 hP hD hK hS => ?_)
        obtain ⟨s_9, r_10⟩ := u9
        try dsimp only at hw_12
        have hP : va_P (dC, dI) CL [(h0, .inr (11, [.ref rn, w1, w2, w3, w4, w5, w6, w7, w8, w9, w10, w11, w12, w13, w14, w15, w16, w17, w18, w19, w20, w21, w22, w23, .ref bl, .ref sh, w26, w27, .ref st, .ref rw, w30, w31, w32, w33])), (bl, .inl (kb, 1200, .inl b9)), (st, .inl (ks, 8, .inl s_9)), (rw, .inl (kr, 64, .inl r_10)), (sh, .inl (kh, 32, .inl fh)), (rn, .inl (kn, 64, .inl fn))] H := hP
        have hD : va_D A [(h0, .inr (11, [.ref rn, w1, w2, w3, w4, w5, w6, w7, w8, w9, w10, w11, w12, w13, w14, w15, w16, w17, w18, w19, w20, w21, w22, w23, .ref bl, .ref sh, w26, w27, .ref st, .ref rw, w30, w31, w32, w33])), (bl, .inl (kb, 1200, .inl b9)), (st, .inl (ks, 8, .inl s_9)), (rw, .inl (kr, 64, .inl r_10)), (sh, .inl (kh, 32, .inl fh)), (rn, .inl (kn, 64, .inl fn))] := hD
        have hK : va_K (dC, dI) CL [(kb, .byte), (ks, .int), (kr, .int), (kh, .byte), (kn, .int)] s := hK
        refine lv_iinc (v := (nI 64)) (lv' := [(4, .int (nI 64)), (3, .ref st), (0, .ref h0), (1, .int (nI 0)), (2, .int (nI 64))]) hx hb d_Mo_hash_128 hl (k := 0) rfl (k_incn _ 64) (by decide) rfl (fun ls hl => ?_)
        refine lv_goto (tgt := 116) hx hb d_Mo_hash_131 (by decide) ?_
        refine lv_iload hx hb d_Mo_hash_116 (lv_at hl 0 rfl) ?_
        refine lv_iload_n hx hb d_Mo_hash_118 rfl (lv_at hl 4 rfl) ?_
        refine lv_icmp_ge (tgt := 134) hx hb d_Mo_hash_119 (by decide) (fun c119 => ?_) (fun c119 => absurd (by decide) c119)
        refine lv_iconst (v := (nI 0)) hx hb d_Mo_hash_134 (by decide +kernel) ?_
        refine lv_istore (lv' := [(4, .int (nI 0)), (3, .ref st), (0, .ref h0), (1, .int (nI 0)), (2, .int (nI 64))]) hx hb d_Mo_hash_135 hl (by decide) rfl (fun ls hl => ?_)
        have lb_137 : ∀ (n9 : Nat) (m9 : Nat) (h9 : Nat → Int32) (H : Heap) (locs : List Loc) (ls : Array Slot), (m9 ≤ 32) → (32 - m9 < n9) → va_P (dC, dI) CL [(h0, .inr (11, [.ref rn, w1, w2, w3, w4, w5, w6, w7, w8, w9, w10, w11, w12, w13, w14, w15, w16, w17, w18, w19, w20, w21, w22, w23, .ref bl, .ref sh, w26, w27, .ref st, .ref rw, w30, w31, w32, w33])), (bl, .inl (kb, 1200, .inl b9)), (st, .inl (ks, 8, .inl s_9)), (rw, .inl (kr, 64, .inl r_10)), (sh, .inl (kh, 32, .inl h9)), (rn, .inl (kn, 64, .inl fn))] H → va_D A [(h0, .inr (11, [.ref rn, w1, w2, w3, w4, w5, w6, w7, w8, w9, w10, w11, w12, w13, w14, w15, w16, w17, w18, w19, w20, w21, w22, w23, .ref bl, .ref sh, w26, w27, .ref st, .ref rw, w30, w31, w32, w33])), (bl, .inl (kb, 1200, .inl b9)), (st, .inl (ks, 8, .inl s_9)), (rw, .inl (kr, 64, .inl r_10)), (sh, .inl (kh, 32, .inl h9)), (rn, .inl (kn, 64, .inl fn))] → va_S A s.heap H locs → lv_has ls 5 [(0, .ref h0), (3, .ref st), (4, .int (nI m9))] → W p l e ({ frames := 2, cells := 0, slots := 0, locals := 53 } : Room) s m ([.ref h0, .int (nI 0)] : List Value).toArray below meth c H locs 0 0 Qg (F0 m 137 ls []) := by
          intro n9
          induction n9 with
          | zero => intro m9 h9 H locs ls hm9 hm9; exact absurd hm9 (Nat.not_lt_zero _)
          | succ n9 ih137 =>
            intro m9 h9 H locs ls hm9 hm137 hP hD hS hl
            refine lv_iload hx hb d_Mo_hash_137 (lv_at hl 2 rfl) ?_
            refine lv_bipush (v := (nI 32)) hx hb d_Mo_hash_139 (by decide +kernel) ?_
            refine lv_icmp_ge (tgt := 175) hx hb d_Mo_hash_141 (by decide) (fun c141 => ?_) (fun c141 => ?_)
            · have c141 : 32 ≤ m9 := (nI_leI (by omega) (by omega)).mp c141
              have hP9 := hP.sub (ws' := [(h0, .inr (11, [.ref rn, w1, w2, w3, w4, w5, w6, w7, w8, w9, w10, w11, w12, w13, w14, w15, w16, w17, w18, w19, w20, w21, w22, w23, .ref bl, .ref sh, w26, w27, .ref st, .ref rw, w30, w31, w32, w33])), (bl, .inl (kb, 1200, .inl b9)), (st, .inl (ks, 8, .inl s_9)), (rw, .inl (kr, 64, .inl r_10)), (sh, .inl (kh, 32, .inl h9)), (rn, .inl (kn, 64, .inl fn))]) [0, 1, 2, 3, 4, 5] rfl
              have hD9 := hD.sub (ws' := [(h0, .inr (11, [.ref rn, w1, w2, w3, w4, w5, w6, w7, w8, w9, w10, w11, w12, w13, w14, w15, w16, w17, w18, w19, w20, w21, w22, w23, .ref bl, .ref sh, w26, w27, .ref st, .ref rw, w30, w31, w32, w33])), (bl, .inl (kb, 1200, .inl b9)), (st, .inl (ks, 8, .inl s_9)), (rw, .inl (kr, 64, .inl r_10)), (sh, .inl (kh, 32, .inl h9)), (rn, .inl (kn, 64, .inl fn))]) [0, 1, 2, 3, 4, 5] (by decide) rfl
              have hK9 := hK.sub (tys' := []) [] rfl
              rw [hQg]
              exact W.vret hx hb hr (fun t ht hW => ⟨⟨(b9, s_9, r_10, h9), rfl, trivial, by rw [ht]; exact hP9, va_K.moved hW.alike hK9, hD9⟩, hS.F ht⟩) hS.2.2 d_Mo_hash_175
            · have c141 : ¬ (32 ≤ m9) := fun h => c141 ((nI_leI (by omega) (by omega)).mpr h)
              refine lv_aload_n hx hb d_Mo_hash_144 rfl (lv_at hl 0 rfl) ?_
              refine va_get (D := (dC, dI)) (ci := 11) (v := .ref sh) (C := R_Mo) (T := F_Mo) (N := 34) hx hb hts i_Mo hown hK hP 0 rfl rfl 25 (by decide) (hts _ m_301) (fun _ h9 => h9) rfl d_Mo_hash_145 ?_
              refine lv_iload hx hb d_Mo_hash_148 (lv_at hl 2 rfl) ?_
              refine lv_aload_n hx hb d_Mo_hash_150 rfl (lv_at hl 1 rfl) ?_
              refine lv_iload hx hb d_Mo_hash_151 (lv_at hl 2 rfl) ?_
              refine lv_iconst (v := (nI 4)) hx hb d_Mo_hash_153 (by decide +kernel) ?_
              refine lv_idiv hx hb d_Mo_hash_154 (by decide) ?_
              refine ki (v := nI (m9 / 4)) (pk_div (by omega) (by decide) (by decide)) ?_
              refine kv_iald hx hb hK hP 2 1 rfl rfl (by omega) (by omega) d_Mo_hash_155 ?_
              refine lv_topi (fun v_13 _ => ?_)
              refine lv_bipush (v := (nI 24)) hx hb d_Mo_hash_156 (by decide +kernel) ?_
              refine lv_bipush (v := (nI 8)) hx hb d_Mo_hash_158 (by decide +kernel) ?_
              refine lv_iload hx hb d_Mo_hash_160 (lv_at hl 2 rfl) ?_
              refine lv_iconst (v := (nI 4)) hx hb d_Mo_hash_162 (by decide +kernel) ?_
              refine lv_irem hx hb d_Mo_hash_163 (by decide) ?_
              refine ki (v := nI (m9 % 4)) (pk_rem (by omega) (by decide) (by decide)) ?_
              refine lv_imul hx hb d_Mo_hash_164 ?_
              refine ki (v := nI (8 * (m9 % 4))) (k_mul 8 (m9 % 4) rfl) ?_
              refine lv_isub hx hb d_Mo_hash_165 ?_
              refine ki (v := nI (24 - (8 * (m9 % 4)))) (pk_sub (by omega)) ?_
              refine lv_ishr hx hb d_Mo_hash_166 ?_
              refine lv_topi (fun v_14 _ => ?_)
              refine lv_i2b hx hb d_Mo_hash_167 rfl ?_
              refine lv_topi (fun v_15 _ => ?_)
              refine kv_bast hx hb hK hP hD hS 4 3 rfl rfl (by omega) (by omega) d_Mo_hash_168 (fun H locs g_16 _ hP hD hS => ?_)
              have hP : va_P (dC, dI) CL [(h0, .inr (11, [.ref rn, w1, w2, w3, w4, w5, w6, w7, w8, w9, w10, w11, w12, w13, w14, w15, w16, w17, w18, w19, w20, w21, w22, w23, .ref bl, .ref sh, w26, w27, .ref st, .ref rw, w30, w31, w32, w33])), (bl, .inl (kb, 1200, .inl b9)), (st, .inl (ks, 8, .inl s_9)), (rw, .inl (kr, 64, .inl r_10)), (sh, .inl (kh, 32, .inl g_16)), (rn, .inl (kn, 64, .inl fn))] H := hP
              have hD : va_D A [(h0, .inr (11, [.ref rn, w1, w2, w3, w4, w5, w6, w7, w8, w9, w10, w11, w12, w13, w14, w15, w16, w17, w18, w19, w20, w21, w22, w23, .ref bl, .ref sh, w26, w27, .ref st, .ref rw, w30, w31, w32, w33])), (bl, .inl (kb, 1200, .inl b9)), (st, .inl (ks, 8, .inl s_9)), (rw, .inl (kr, 64, .inl r_10)), (sh, .inl (kh, 32, .inl g_16)), (rn, .inl (kn, 64, .inl fn))] := hD
              refine lv_iinc (v := (nI (m9 + 1))) (lv' := [(4, .int (nI (m9 + 1))), (0, .ref h0), (3, .ref st)]) hx hb d_Mo_hash_169 hl (k := 2) rfl (k_inc _) (by decide) rfl (fun ls hl => ?_)
              refine lv_goto (tgt := 137) hx hb d_Mo_hash_172 (by decide) ?_
              exact ih137  (m9 + 1) g_16 _ _ _ (by omega) (by omega) (hP.sub [0, 1, 2, 3, 4, 5] rfl) (hD.sub [0, 1, 2, 3, 4, 5] (by decide) rfl) hS (lv_sub hl [1, 2, 0] rfl)
        exact lb_137 (32 - 0 + 1) 0 fh _ _ _ (Nat.zero_le _) (Nat.lt_succ_self _) (hP.sub [0, 1, 2, 3, 4, 5] rfl) (hD.sub [0, 1, 2, 3, 4, 5] (by decide) rfl) hS (lv_sub hl [2, 1, 0] rfl)
      · have c15 : ¬ (64 ≤ i9) := fun h => c15 ((nI_leI (by omega) (by omega)).mpr h)
        refine lv_aload_n hx hb d_Mo_hash_18 rfl (lv_at hl 0 rfl) ?_
        refine va_get (D := (dC, dI)) (ci := 11) (v := .ref bl) (C := R_Mo) (T := F_Mo) (N := 34) hx hb hts i_Mo hown hK hP 0 rfl rfl 24 (by decide) (hts _ m_288) (fun _ h9 => h9) rfl d_Mo_hash_19 ?_
        refine lv_iload_n hx hb d_Mo_hash_22 rfl (lv_at hl 3 rfl) ?_
        refine lv_iload_n hx hb d_Mo_hash_23 rfl (lv_at hl 3 rfl) ?_
        refine lv_iload_n hx hb d_Mo_hash_24 rfl (lv_at hl 1 rfl) ?_
        refine lv_icmp_ne (tgt := 34) hx hb d_Mo_hash_25 (by decide) (fun c25 => ?_) (fun c25 => ?_)
        · have c25 : ¬ (i9 = 0) := fun h => c25 ((nI_eq (by omega) (by omega)).mpr h)
          refine lv_iload_n hx hb d_Mo_hash_34 rfl (lv_at hl 3 rfl) ?_
          refine lv_iload_n hx hb d_Mo_hash_35 rfl (lv_at hl 2 rfl) ?_
          refine lv_iconst (v := (nI 4)) hx hb d_Mo_hash_36 (by decide +kernel) ?_
          refine lv_isub hx hb d_Mo_hash_37 ?_
          refine ki (v := nI 60) (by decide) ?_
          refine lv_icmp_ge (tgt := 45) hx hb d_Mo_hash_38 (by decide) (fun c38 => ?_) (fun c38 => ?_)
          · have c38 : 60 ≤ i9 := (nI_leI (by omega) (by omega)).mp c38
            refine lv_bipush (v := (nI 8)) hx hb d_Mo_hash_45 (by decide +kernel) ?_
            refine lv_iload_n hx hb d_Mo_hash_47 rfl (lv_at hl 1 rfl) ?_
            refine lv_imul hx hb d_Mo_hash_48 ?_
            refine ki (v := nI 0) (k_mul 8 0 rfl) ?_
            refine lv_bipush (v := (nI 8)) hx hb d_Mo_hash_49 (by decide +kernel) ?_
            refine lv_iload_n hx hb d_Mo_hash_51 rfl (lv_at hl 2 rfl) ?_
            refine lv_iconst (v := (nI 1)) hx hb d_Mo_hash_52 (by decide +kernel) ?_
            refine lv_isub hx hb d_Mo_hash_53 ?_
            refine ki (v := nI 63) (by decide) ?_
            refine lv_iload_n hx hb d_Mo_hash_54 rfl (lv_at hl 3 rfl) ?_
            refine lv_isub hx hb d_Mo_hash_55 ?_
            refine ki (v := nI (63 - i9)) (pk_sub (by omega)) ?_
            refine lv_imul hx hb d_Mo_hash_56 ?_
            refine ki (v := nI (8 * (63 - i9))) (k_mul 8 (63 - i9) rfl) ?_
            refine lv_ishr hx hb d_Mo_hash_57 ?_
            refine lv_topi (fun v_17 _ => ?_)
            refine lv_i2b hx hb d_Mo_hash_58 rfl ?_
            refine lv_topi (fun v_18 _ => ?_)
            refine kv_bast hx hb hK hP hD hS 1 0 rfl rfl (by omega) (by omega) d_Mo_hash_59 (fun H locs g_19 _ hP hD hS => ?_)
            have hP : va_P (dC, dI) CL [(h0, .inr (11, [.ref rn, w1, w2, w3, w4, w5, w6, w7, w8, w9, w10, w11, w12, w13, w14, w15, w16, w17, w18, w19, w20, w21, w22, w23, .ref bl, .ref sh, w26, w27, .ref st, .ref rw, w30, w31, w32, w33])), (bl, .inl (kb, 1200, .inl g_19)), (st, .inl (ks, 8, .inl fs)), (rw, .inl (kr, 64, .inl fr)), (sh, .inl (kh, 32, .inl fh)), (rn, .inl (kn, 64, .inl fn))] H := hP
            have hD : va_D A [(h0, .inr (11, [.ref rn, w1, w2, w3, w4, w5, w6, w7, w8, w9, w10, w11, w12, w13, w14, w15, w16, w17, w18, w19, w20, w21, w22, w23, .ref bl, .ref sh, w26, w27, .ref st, .ref rw, w30, w31, w32, w33])), (bl, .inl (kb, 1200, .inl g_19)), (st, .inl (ks, 8, .inl fs)), (rw, .inl (kr, 64, .inl fr)), (sh, .inl (kh, 32, .inl fh)), (rn, .inl (kn, 64, .inl fn))] := hD
            refine lv_iinc (v := (nI (i9 + 1))) (lv' := [(3, .int (nI (i9 + 1))), (0, .ref h0), (1, .int (nI 0)), (2, .int (nI 64))]) hx hb d_Mo_hash_60 hl (k := 3) rfl (k_inc _) (by decide) rfl (fun ls hl => ?_)
            refine lv_goto (tgt := 13) hx hb d_Mo_hash_63 (by decide) ?_
            exact ih13  (i9 + 1) g_19 _ _ _ (by omega) (by omega) (hP.sub [0, 1, 2, 3, 4, 5] rfl) (hD.sub [0, 1, 2, 3, 4, 5] (by decide) rfl) hS (lv_sub hl [1, 2, 3, 0] rfl)
          · have c38 : ¬ (60 ≤ i9) := fun h => c38 ((nI_leI (by omega) (by omega)).mpr h)
            refine lv_iconst (v := (nI 0)) hx hb d_Mo_hash_41 (by decide +kernel) ?_
            refine lv_goto (tgt := 58) hx hb d_Mo_hash_42 (by decide) ?_
            refine lv_i2b hx hb d_Mo_hash_58 rfl ?_
            refine lv_topi (fun v_20 _ => ?_)
            refine kv_bast hx hb hK hP hD hS 1 0 rfl rfl (by omega) (by omega) d_Mo_hash_59 (fun H locs g_21 _ hP hD hS => ?_)
            have hP : va_P (dC, dI) CL [(h0, .inr (11, [.ref rn, w1, w2, w3, w4, w5, w6, w7, w8, w9, w10, w11, w12, w13, w14, w15, w16, w17, w18, w19, w20, w21, w22, w23, .ref bl, .ref sh, w26, w27, .ref st, .ref rw, w30, w31, w32, w33])), (bl, .inl (kb, 1200, .inl g_21)), (st, .inl (ks, 8, .inl fs)), (rw, .inl (kr, 64, .inl fr)), (sh, .inl (kh, 32, .inl fh)), (rn, .inl (kn, 64, .inl fn))] H := hP
            have hD : va_D A [(h0, .inr (11, [.ref rn, w1, w2, w3, w4, w5, w6, w7, w8, w9, w10, w11, w12, w13, w14, w15, w16, w17, w18, w19, w20, w21, w22, w23, .ref bl, .ref sh, w26, w27, .ref st, .ref rw, w30, w31, w32, w33])), (bl, .inl (kb, 1200, .inl g_21)), (st, .inl (ks, 8, .inl fs)), (rw, .inl (kr, 64, .inl fr)), (sh, .inl (kh, 32, .inl fh)), (rn, .inl (kn, 64, .inl fn))] := hD
            refine lv_iinc (v := (nI (i9 + 1))) (lv' := [(3, .int (nI (i9 + 1))), (0, .ref h0), (1, .int (nI 0)), (2, .int (nI 64))]) hx hb d_Mo_hash_60 hl (k := 3) rfl (k_inc _) (by decide) rfl (fun ls hl => ?_)
            refine lv_goto (tgt := 13) hx hb d_Mo_hash_63 (by decide) ?_
            exact ih13  (i9 + 1) g_21 _ _ _ (by omega) (by omega) (hP.sub [0, 1, 2, 3, 4, 5] rfl) (hD.sub [0, 1, 2, 3, 4, 5] (by decide) rfl) hS (lv_sub hl [1, 2, 3, 0] rfl)
        · have c25 : i9 = 0 := (nI_eq (by omega) (by omega)).mp c25
          refine lv_sipush (v := (nI 128)) hx hb d_Mo_hash_28 (by decide +kernel) ?_
          refine lv_goto (tgt := 58) hx hb d_Mo_hash_31 (by decide) ?_
          refine lv_i2b hx hb d_Mo_hash_58 rfl ?_
          refine lv_topi (fun v_22 _ => ?_)
          refine kv_bast hx hb hK hP hD hS 1 0 rfl rfl (by omega) (by omega) d_Mo_hash_59 (fun H locs g_23 _ hP hD hS => ?_)
          have hP : va_P (dC, dI) CL [(h0, .inr (11, [.ref rn, w1, w2, w3, w4, w5, w6, w7, w8, w9, w10, w11, w12, w13, w14, w15, w16, w17, w18, w19, w20, w21, w22, w23, .ref bl, .ref sh, w26, w27, .ref st, .ref rw, w30, w31, w32, w33])), (bl, .inl (kb, 1200, .inl g_23)), (st, .inl (ks, 8, .inl fs)), (rw, .inl (kr, 64, .inl fr)), (sh, .inl (kh, 32, .inl fh)), (rn, .inl (kn, 64, .inl fn))] H := hP
          have hD : va_D A [(h0, .inr (11, [.ref rn, w1, w2, w3, w4, w5, w6, w7, w8, w9, w10, w11, w12, w13, w14, w15, w16, w17, w18, w19, w20, w21, w22, w23, .ref bl, .ref sh, w26, w27, .ref st, .ref rw, w30, w31, w32, w33])), (bl, .inl (kb, 1200, .inl g_23)), (st, .inl (ks, 8, .inl fs)), (rw, .inl (kr, 64, .inl fr)), (sh, .inl (kh, 32, .inl fh)), (rn, .inl (kn, 64, .inl fn))] := hD
          refine lv_iinc (v := (nI (i9 + 1))) (lv' := [(3, .int (nI (i9 + 1))), (0, .ref h0), (1, .int (nI 0)), (2, .int (nI 64))]) hx hb d_Mo_hash_60 hl (k := 3) rfl (k_inc _) (by decide) rfl (fun ls hl => ?_)
          refine lv_goto (tgt := 13) hx hb d_Mo_hash_63 (by decide) ?_
          exact ih13  (i9 + 1) g_23 _ _ _ (by omega) (by omega) (hP.sub [0, 1, 2, 3, 4, 5] rfl) (hD.sub [0, 1, 2, 3, 4, 5] (by decide) rfl) hS (lv_sub hl [1, 2, 3, 0] rfl)
  exact lb_13 (64 - 0 + 1) 0 fb _ _ _ (Nat.zero_le _) (Nat.lt_succ_self _) (hP.sub [0, 1, 2, 3, 4, 5] rfl) (hD.sub [0, 1, 2, 3, 4, 5] (by decide) rfl) hS (lv_sub hl [2, 3, 1, 0] rfl)
