-- ThresholdBench$Digests.plain
set_option maxHeartbeats 4000000 in
set_option maxRecDepth 100000 in
theorem c_Dig_plain (l : Launch) (dC : Nat → ClassId) (dI : Nat → Nat → Nat) (h0 : Nat) (s0 : Nat) (a : Nat) (b : Nat) (ka : ClassId) (kb : ClassId) (f : Nat → Int32) (g : Nat → Int32) (y1 : Value) (y2 : Value) (y3 : Value) (y4 : Value) (tk : Int32) (r0 : Nat) (rb : Nat) (kr : ClassId) (h : Nat → Int32) (r1 : Nat) (v1 : Value) (sz : Nat)  : Met l y_Dig_plain (.code y_Dig_plain prog_3_method_2_code 3 (none) :: AW) ({ frames := 4, cells := 0, slots := 0, locals := 104 } : Room) (va_Pc [.ref h0, .ref r0, .ref r1] (pw (dC, dI) CL [(h0, .inr (9, [.ref s0, y1, y2, y3, y4])), (s0, .inr (10, [.ref a, .ref b, .int tk])), (a, .inl (ka, 8, .inl f)), (b, .inl (kb, 64, .inl g)), (r0, .inr (1, [.ref rb, .int (nI 0)])), (rb, .inl (kr, 66, .inl h)), (r1, .inr (1, [v1, .int (nI 0)]))] [(ka, .int), (kb, .int), (kr, .byte)] sz)) (va_Qv (fun u : (Nat → Int32) × (Nat → Int32) × (Nat → Int32) => True) (fun (u : (Nat → Int32) × (Nat → Int32) × (Nat → Int32)) t => qw (dC, dI) CL (va_A [(h0, .inr (9, [.ref s0, y1, y2, y3, y4])), (s0, .inr (10, [.ref a, .ref b, .int tk])), (a, .inl (ka, 8, .inl f)), (b, .inl (kb, 64, .inl g)), (r0, .inr (1, [.ref rb, .int (nI 0)])), (rb, .inl (kr, 66, .inl h)), (r1, .inr (1, [v1, .int (nI 0)]))] sz) ((fun u : (Nat → Int32) × (Nat → Int32) × (Nat → Int32) => [(h0, .inr (9, [.ref s0, y1, y2, y3, y4])), (s0, .inr (10, [.ref a, .ref b, .int (nI 64)])), (a, .inl (ka, 8, .inl u.1)), (b, .inl (kb, 64, .inl u.2.1)), (r0, .inr (1, [.ref rb, .int (nI 32)])), (rb, .inl (kr, 66, .inl u.2.2)), (r1, .inr (1, [v1, .int (nI 0)]))]) u) ((fun u : (Nat → Int32) × (Nat → Int32) × (Nat → Int32) => []) u) t) (va_A [(h0, .inr (9, [.ref s0, y1, y2, y3, y4])), (s0, .inr (10, [.ref a, .ref b, .int tk])), (a, .inl (ka, 8, .inl f)), (b, .inl (kb, 64, .inl g)), (r0, .inr (1, [.ref rb, .int (nI 0)])), (rb, .inl (kr, 66, .inl h)), (r1, .inr (1, [v1, .int (nI 0)]))] sz)) 0 0 (va_A [(h0, .inr (9, [.ref s0, y1, y2, y3, y4])), (s0, .inr (10, [.ref a, .ref b, .int tk])), (a, .inl (ka, 8, .inl f)), (b, .inl (kb, 64, .inl g)), (r0, .inr (1, [.ref rb, .int (nI 0)])), (rb, .inl (kr, 66, .inl h)), (r1, .inr (1, [v1, .int (nI 0)]))] sz) := by
  refine Met.ofW (cc := prog_3_method_2_code) (maxL := 3) (ret := none) (by decide) rfl ?_
  intro p e s m args below meth c s₁ B hml hv
  obtain ⟨rfl, hsz, hP, hK, hD0, hZ, hN⟩ := hv
  have hx := B.exec
  have hb := B.bytes
  have hr := B.returns
  have hts := kw (atoms_spec (ws := .code y_Dig_plain prog_3_method_2_code 3 (none) :: AW) B.pre)
  have hown : s.vm.findClass R_Dig = some m.cls := findClass_of_methodNamed B.named
  have hlocks := B.notSynchronized
  subst hsz
  have hD := hD0.self (sz := s.heap.size)
  obtain ⟨Qg, hQg⟩ : ∃ q, q = MQ below (va_Qv (fun u : (Nat → Int32) × (Nat → Int32) × (Nat → Int32) => True) (fun (u : (Nat → Int32) × (Nat → Int32) × (Nat → Int32)) t => qw (dC, dI) CL (va_A [(h0, .inr (9, [.ref s0, y1, y2, y3, y4])), (s0, .inr (10, [.ref a, .ref b, .int tk])), (a, .inl (ka, 8, .inl f)), (b, .inl (kb, 64, .inl g)), (r0, .inr (1, [.ref rb, .int (nI 0)])), (rb, .inl (kr, 66, .inl h)), (r1, .inr (1, [v1, .int (nI 0)]))] s.heap.size) ((fun u : (Nat → Int32) × (Nat → Int32) × (Nat → Int32) => [(h0, .inr (9, [.ref s0, y1, y2, y3, y4])), (s0, .inr (10, [.ref a, .ref b, .int (nI 64)])), (a, .inl (ka, 8, .inl u.1)), (b, .inl (kb, 64, .inl u.2.1)), (r0, .inr (1, [.ref rb, .int (nI 32)])), (rb, .inl (kr, 66, .inl u.2.2)), (r1, .inr (1, [v1, .int (nI 0)]))]) u) ((fun u : (Nat → Int32) × (Nat → Int32) × (Nat → Int32) => []) u) t) (va_A [(h0, .inr (9, [.ref s0, y1, y2, y3, y4])), (s0, .inr (10, [.ref a, .ref b, .int tk])), (a, .inl (ka, 8, .inl f)), (b, .inl (kb, 64, .inl g)), (r0, .inr (1, [.ref rb, .int (nI 0)])), (rb, .inl (kr, 66, .inl h)), (r1, .inr (1, [v1, .int (nI 0)]))] s.heap.size)) ([.ref h0, .ref r0, .ref r1] : List Value).toArray s 0 0 (va_A [(h0, .inr (9, [.ref s0, y1, y2, y3, y4])), (s0, .inr (10, [.ref a, .ref b, .int tk])), (a, .inl (ka, 8, .inl f)), (b, .inl (kb, 64, .inl g)), (r0, .inr (1, [.ref rb, .int (nI 0)])), (rb, .inl (kr, 66, .inl h)), (r1, .inr (1, [v1, .int (nI 0)]))] s.heap.size) := ⟨_, rfl⟩
  rw [← hQg]
  generalize hAe : va_A [(h0, .inr (9, [.ref s0, y1, y2, y3, y4])), (s0, .inr (10, [.ref a, .ref b, .int tk])), (a, .inl (ka, 8, .inl f)), (b, .inl (kb, 64, .inl g)), (r0, .inr (1, [.ref rb, .int (nI 0)])), (rb, .inl (kr, 66, .inl h)), (r1, .inr (1, [v1, .int (nI 0)]))] s.heap.size = A at hD hZ hQg
  have hA : ∀ q : Nat, s.heap.size ≤ q → A q := fun q h => by rw [← hAe]; exact Or.inr h
  have hS : va_S A s.heap s.heap [] := va_S.rf
  have hP : va_P (dC, dI) CL [(h0, .inr (9, [.ref s0, y1, y2, y3, y4])), (s0, .inr (10, [.ref a, .ref b, .int tk])), (a, .inl (ka, 8, .inl f)), (b, .inl (kb, 64, .inl g)), (r0, .inr (1, [.ref rb, .int (nI 0)])), (rb, .inl (kr, 66, .inl h)), (r1, .inr (1, [v1, .int (nI 0)]))] s.heap := hP
  have hl := lv_entry ([.ref h0, .ref r0, .ref r1]) (n := 3) (Nat.le_of_ble_eq_true rfl)
  rw [lg_entry_eq]
  generalize (lg_sl ([.ref h0, .ref r0, .ref r1]) ++ List.replicate (3 - (lg_sl ([.ref h0, .ref r0, .ref r1])).length) Slot.unset).toArray = ls at hl ⊢
  have hl : lv_has ls 3 [(0, .ref h0), (1, .ref r0), (2, .ref r1)] := hl
  show W p l e ({ frames := 4, cells := 0, slots := 0, locals := 104 } : Room) s m ([.ref h0, .ref r0, .ref r1] : List Value).toArray below meth c s.heap [] 0 0 Qg (F0 m 0 ls [])
  refine lv_aload_n hx hb d_Dig_plain_0 rfl (lv_at hl 0 rfl) ?_
  refine va_get (D := (dC, dI)) (ci := 9) (v := .ref s0) (C := R_Dig) (T := F_Dig) (N := 5) hx hb hts i_Dig hown hK hP 0 rfl rfl 0 (by decide) (hts _ m_59) (fun _ h9 => h9) rfl d_Dig_plain_1 ?_
  refine k_finv (wr := [(h0, .inr (9, [.ref s0, y1, y2, y3, y4])), (r0, .inr (1, [.ref rb, .int (nI 0)])), (rb, .inl (kr, 66, .inl h)), (r1, .inr (1, [v1, .int (nI 0)]))]) [1, 2, 3] [0, 4, 5, 6] (k_runV (n := 0) (As := []) (rest := []) (wc := [(s0, .inr (10, [.ref a, .ref b, .int tk])), (a, .inl (ka, 8, .inl f)), (b, .inl (kb, 64, .inl g))]) ⟨hx, hb, hml, hown, hts⟩ (c_Sha_begin l dC dI s0 a b ka kb f g tk _ ) (kg_V m_225 m_226 m_227 m_55 (kg_code m_224)) (by decide +kernel) rfl rfl ⟨Nat.le_of_ble_eq_true rfl, Nat.le_of_ble_eq_true rfl⟩ [1, 2, 3] [0, 1] hP hD hK hS hA hZ hN (by rfl) (by decide) (by rfl) rfl rfl rfl rfl hl.1 rfl (Nat.le_of_ble_eq_true rfl) d_Dig_plain_4 ⟨(Nat.le_of_ble_eq_true rfl), (Nat.le_of_ble_eq_true rfl)⟩) hP hD hK hS hA (by rfl) (by rfl) (by decide) (by decide) (fun u9 H locs hw_4 hP hD hK hS => ?_)
  obtain ⟨f_1, g_2⟩ := u9
  try dsimp only at hw_4
  have hP : va_P (dC, dI) CL [(h0, .inr (9, [.ref s0, y1, y2, y3, y4])), (r0, .inr (1, [.ref rb, .int (nI 0)])), (rb, .inl (kr, 66, .inl h)), (r1, .inr (1, [v1, .int (nI 0)])), (s0, .inr (10, [.ref a, .ref b, .int (nI 0)])), (a, .inl (ka, 8, .inl f_1)), (b, .inl (kb, 64, .inl g_2))] H := hP
  have hD : va_D A [(h0, .inr (9, [.ref s0, y1, y2, y3, y4])), (r0, .inr (1, [.ref rb, .int (nI 0)])), (rb, .inl (kr, 66, .inl h)), (r1, .inr (1, [v1, .int (nI 0)])), (s0, .inr (10, [.ref a, .ref b, .int (nI 0)])), (a, .inl (ka, 8, .inl f_1)), (b, .inl (kb, 64, .inl g_2))] := hD
  have hK : va_K (dC, dI) CL [(ka, .int), (kb, .int), (kr, .byte)] s := hK
  refine lv_aload_n hx hb d_Dig_plain_7 rfl (lv_at hl 0 rfl) ?_
  refine va_get (D := (dC, dI)) (ci := 9) (v := .ref s0) (C := R_Dig) (T := F_Dig) (N := 5) hx hb hts i_Dig hown hK hP 0 rfl rfl 0 (by decide) (hts _ m_59) (fun _ h9 => h9) rfl d_Dig_plain_8 ?_
  refine lv_aload_n hx hb d_Dig_plain_11 rfl (lv_at hl 2 rfl) ?_
  refine k_finv (wr := [(h0, .inr (9, [.ref s0, y1, y2, y3, y4])), (r0, .inr (1, [.ref rb, .int (nI 0)])), (rb, .inl (kr, 66, .inl h))]) [4, 5, 6, 3] [0, 1, 2] (k_runV (n := 1) (As := [.ref r1]) (rest := []) (wc := [(s0, .inr (10, [.ref a, .ref b, .int (nI 0)])), (a, .inl (ka, 8, .inl f_1)), (b, .inl (kb, 64, .inl g_2)), (r1, .inr (1, [v1, .int (nI 0)]))]) ⟨hx, hb, hml, hown, hts⟩ (c_Sha_takeRow l dC dI s0 a b ka kb f_1 g_2 (.int (nI 0)) r1 v1 _ ) (kg_V m_229 m_230 m_231 m_55 (kg_code m_228)) (by decide +kernel) rfl rfl ⟨Nat.le_of_ble_eq_true rfl, Nat.le_of_ble_eq_true rfl⟩ [4, 5, 6, 3] [0, 1] hP hD hK hS hA hZ hN (by rfl) (by decide) (by rfl) rfl rfl rfl rfl hl.1 rfl (Nat.le_of_ble_eq_true rfl) d_Dig_plain_12 ⟨(Nat.le_of_ble_eq_true rfl), (Nat.le_of_ble_eq_true rfl)⟩) hP hD hK hS hA (by rfl) (by rfl) (by decide) (by decide) (fun u9 H locs hw_6 hP hD hK hS => ?_)
  try dsimp only at hw_6
  have hP : va_P (dC, dI) CL [(h0, .inr (9, [.ref s0, y1, y2, y3, y4])), (r0, .inr (1, [.ref rb, .int (nI 0)])), (rb, .inl (kr, 66, .inl h)), (s0, .inr (10, [.ref a, .ref b, .int (nI 0)])), (a, .inl (ka, 8, .inl f_1)), (b, .inl (kb, 64, .inl g_2)), (r1, .inr (1, [v1, .int (nI 0)]))] H := hP
  have hD : va_D A [(h0, .inr (9, [.ref s0, y1, y2, y3, y4])), (r0, .inr (1, [.ref rb, .int (nI 0)])), (rb, .inl (kr, 66, .inl h)), (s0, .inr (10, [.ref a, .ref b, .int (nI 0)])), (a, .inl (ka, 8, .inl f_1)), (b, .inl (kb, 64, .inl g_2)), (r1, .inr (1, [v1, .int (nI 0)]))] := hD
  have hK : va_K (dC, dI) CL [(ka, .int), (kb, .int), (kr, .byte)] s := hK
  refine lv_aload_n hx hb d_Dig_plain_15 rfl (lv_at hl 0 rfl) ?_
  refine va_get (D := (dC, dI)) (ci := 9) (v := .ref s0) (C := R_Dig) (T := F_Dig) (N := 5) hx hb hts i_Dig hown hK hP 0 rfl rfl 0 (by decide) (hts _ m_59) (fun _ h9 => h9) rfl d_Dig_plain_16 ?_
  refine lv_aload_n hx hb d_Dig_plain_19 rfl (lv_at hl 1 rfl) ?_
  refine k_finv (wr := [(h0, .inr (9, [.ref s0, y1, y2, y3, y4])), (r1, .inr (1, [v1, .int (nI 0)]))]) [3, 4, 5, 1, 2] [0, 6] (k_runV (n := 1) (As := [.ref r0]) (rest := []) (wc := [(s0, .inr (10, [.ref a, .ref b, .int (nI 0)])), (a, .inl (ka, 8, .inl f_1)), (b, .inl (kb, 64, .inl g_2)), (r0, .inr (1, [.ref rb, .int (nI 0)])), (rb, .inl (kr, 66, .inl h))]) ⟨hx, hb, hml, hown, hts⟩ (c_Sha_end l dC dI s0 a b ka kb f_1 g_2 r0 rb kr h _ ) (kg_V m_233 m_234 m_235 m_55 (kg_code m_232)) (by decide +kernel) rfl rfl ⟨Nat.le_of_ble_eq_true rfl, Nat.le_of_ble_eq_true rfl⟩ [3, 4, 5, 1, 2] [0, 1, 2] hP hD hK hS hA hZ hN (by rfl) (by decide) (by rfl) rfl rfl rfl rfl hl.1 rfl (Nat.le_of_ble_eq_true rfl) d_Dig_plain_20 ⟨(Nat.le_of_ble_eq_true rfl), (Nat.le_of_ble_eq_true rfl)⟩) hP hD hK hS hA (by rfl) (by rfl) (by decide) (by decide) (fun u9 H locs hw_11 hP hD hK hS => ?_)
  obtain ⟨f_7, g_8, h_9⟩ := u9
  try dsimp only at hw_11
  have hP : va_P (dC, dI) CL [(h0, .inr (9, [.ref s0, y1, y2, y3, y4])), (r1, .inr (1, [v1, .int (nI 0)])), (s0, .inr (10, [.ref a, .ref b, .int (nI 64)])), (a, .inl (ka, 8, .inl f_7)), (b, .inl (kb, 64, .inl g_8)), (r0, .inr (1, [.ref rb, .int (nI 32)])), (rb, .inl (kr, 66, .inl h_9))] H := hP
  have hD : va_D A [(h0, .inr (9, [.ref s0, y1, y2, y3, y4])), (r1, .inr (1, [v1, .int (nI 0)])), (s0, .inr (10, [.ref a, .ref b, .int (nI 64)])), (a, .inl (ka, 8, .inl f_7)), (b, .inl (kb, 64, .inl g_8)), (r0, .inr (1, [.ref rb, .int (nI 32)])), (rb, .inl (kr, 66, .inl h_9))] := hD
  have hK : va_K (dC, dI) CL [(ka, .int), (kb, .int), (kr, .byte)] s := hK
  have hP9 := hP.sub (ws' := [(h0, .inr (9, [.ref s0, y1, y2, y3, y4])), (s0, .inr (10, [.ref a, .ref b, .int (nI 64)])), (a, .inl (ka, 8, .inl f_7)), (b, .inl (kb, 64, .inl g_8)), (r0, .inr (1, [.ref rb, .int (nI 32)])), (rb, .inl (kr, 66, .inl h_9)), (r1, .inr (1, [v1, .int (nI 0)]))]) [0, 2, 3, 4, 5, 6, 1] rfl
  have hD9 := hD.sub (ws' := [(h0, .inr (9, [.ref s0, y1, y2, y3, y4])), (s0, .inr (10, [.ref a, .ref b, .int (nI 64)])), (a, .inl (ka, 8, .inl f_7)), (b, .inl (kb, 64, .inl g_8)), (r0, .inr (1, [.ref rb, .int (nI 32)])), (rb, .inl (kr, 66, .inl h_9)), (r1, .inr (1, [v1, .int (nI 0)]))]) [0, 2, 3, 4, 5, 6, 1] (by decide) rfl
  have hK9 := hK.sub (tys' := []) [] rfl
  rw [hQg]
  exact W.vret hx hb hr (fun t ht hW => ⟨⟨(f_7, g_8, h_9), rfl, trivial, by rw [ht]; exact hP9, va_K.moved hW.alike hK9, hD9⟩, hS.F ht⟩) hS.2.2 d_Dig_plain_23

-- ThresholdBench.isParticipant
set_option maxHeartbeats 4000000 in
set_option maxRecDepth 100000 in
theorem c_TB_isPar (l : Launch) (dC : Nat → ClassId) (dI : Nat → Nat → Nat) (h0 : Nat) (p1 : Int32) (o0 : Value) (o1 : Value) (o2 : Value) (o3 : Value) (o4 : Value) (o6 : Value) (o7 : Value) (o8 : Value) (o9 : Value) (o10 : Value) (o11 : Value) (o12 : Value) (o13 : Value) (o14 : Value) (o15 : Value) (o16 : Value) (o17 : Value) (o18 : Value) (sz : Nat)  : Met l y_TB_isParticipant (.code y_TB_isParticipant prog_1_method_23_code 2 (some .boolean) :: AW) ({ frames := 0, cells := 0, slots := 0, locals := 0 } : Room) (va_Pc [.ref h0, .int p1] (pw (dC, dI) CL [(h0, .inr (0, [o0, o1, o2, o3, o4, .int (nI 0), o6, o7, o8, o9, o10, o11, o12, o13, o14, o15, o16, o17, o18]))] [] sz)) (va_Qi (fun (r : Int32) (u : Unit) => r = nI 0) (fun (u : Unit) t => qw (dC, dI) CL (va_A [(h0, .inr (0, [o0, o1, o2, o3, o4, .int (nI 0), o6, o7, o8, o9, o10, o11, o12, o13, o14, o15, o16, o17, o18]))] sz) ((fun _ : Unit => [(h0, .inr (0, [o0, o1, o2, o3, o4, .int (nI 0), o6, o7, o8, o9, o10, o11, o12, o13, o14, o15, o16, o17, o18]))]) u) ((fun _ : Unit => []) u) t) (va_A [(h0, .inr (0, [o0, o1, o2, o3, o4, .int (nI 0), o6, o7, o8, o9, o10, o11, o12, o13, o14, o15, o16, o17, o18]))] sz)) 0 0 (va_A [(h0, .inr (0, [o0, o1, o2, o3, o4, .int (nI 0), o6, o7, o8, o9, o10, o11, o12, o13, o14, o15, o16, o17, o18]))] sz) := by
  refine Met.ofW (cc := prog_1_method_23_code) (maxL := 2) (ret := (some .boolean)) (by decide) rfl ?_
  intro p e s m args below meth c s₁ B hml hv
  obtain ⟨rfl, hsz, hP, hK, hD0, hZ, hN⟩ := hv
  have hx := B.exec
  have hb := B.bytes
  have hr := B.returns
  have hts := kw (atoms_spec (ws := .code y_TB_isParticipant prog_1_method_23_code 2 (some .boolean) :: AW) B.pre)
  have hown : s.vm.findClass R_TB = some m.cls := findClass_of_methodNamed B.named
  have hlocks := B.notSynchronized
  subst hsz
  have hD := hD0.self (sz := s.heap.size)
  obtain ⟨Qg, hQg⟩ : ∃ q, q = MQ below (va_Qi (fun (r : Int32) (u : Unit) => r = nI 0) (fun (u : Unit) t => qw (dC, dI) CL (va_A [(h0, .inr (0, [o0, o1, o2, o3, o4, .int (nI 0), o6, o7, o8, o9, o10, o11, o12, o13, o14, o15, o16, o17, o18]))] s.heap.size) ((fun _ : Unit => [(h0, .inr (0, [o0, o1, o2, o3, o4, .int (nI 0), o6, o7, o8, o9, o10, o11, o12, o13, o14, o15, o16, o17, o18]))]) u) ((fun _ : Unit => []) u) t) (va_A [(h0, .inr (0, [o0, o1, o2, o3, o4, .int (nI 0), o6, o7, o8, o9, o10, o11, o12, o13, o14, o15, o16, o17, o18]))] s.heap.size)) ([.ref h0, .int p1] : List Value).toArray s 0 0 (va_A [(h0, .inr (0, [o0, o1, o2, o3, o4, .int (nI 0), o6, o7, o8, o9, o10, o11, o12, o13, o14, o15, o16, o17, o18]))] s.heap.size) := ⟨_, rfl⟩
  rw [← hQg]
  generalize hAe : va_A [(h0, .inr (0, [o0, o1, o2, o3, o4, .int (nI 0), o6, o7, o8, o9, o10, o11, o12, o13, o14, o15, o16, o17, o18]))] s.heap.size = A at hD hZ hQg
  have hA : ∀ q : Nat, s.heap.size ≤ q → A q := fun q h => by rw [← hAe]; exact Or.inr h
  have hS : va_S A s.heap s.heap [] := va_S.rf
  have hP : va_P (dC, dI) CL [(h0, .inr (0, [o0, o1, o2, o3, o4, .int (nI 0), o6, o7, o8, o9, o10, o11, o12, o13, o14, o15, o16, o17, o18]))] s.heap := hP
  have hl := lv_entry ([.ref h0, .int p1]) (n := 2) (Nat.le_of_ble_eq_true rfl)
  rw [lg_entry_eq]
  generalize (lg_sl ([.ref h0, .int p1]) ++ List.replicate (2 - (lg_sl ([.ref h0, .int p1])).length) Slot.unset).toArray = ls at hl ⊢
  have hl : lv_has ls 2 [(0, .ref h0), (1, .int p1)] := hl
  show W p l e ({ frames := 0, cells := 0, slots := 0, locals := 0 } : Room) s m ([.ref h0, .int p1] : List Value).toArray below meth c s.heap [] 0 0 Qg (F0 m 0 ls [])
  refine lv_iload_n hx hb d_TB_isParticipant_0 rfl (lv_at hl 1 rfl) ?_
  refine lv_iconst (v := (nI 1)) hx hb d_TB_isParticipant_1 (by decide +kernel) ?_
  refine lv_icmp_lt (tgt := 17) hx hb d_TB_isParticipant_2 (by decide) (fun c2 => ?_) (fun c2 => ?_)
  · refine lv_iconst (v := (nI 0)) hx hb d_TB_isParticipant_17 (by decide +kernel) ?_
    have hP9 := hP.sub (ws' := [(h0, .inr (0, [o0, o1, o2, o3, o4, .int (nI 0), o6, o7, o8, o9, o10, o11, o12, o13, o14, o15, o16, o17, o18]))]) [0] rfl
    have hD9 := hD.sub (ws' := [(h0, .inr (0, [o0, o1, o2, o3, o4, .int (nI 0), o6, o7, o8, o9, o10, o11, o12, o13, o14, o15, o16, o17, o18]))]) [0] (by decide) rfl
    have hK9 := hK.sub (tys' := []) [] rfl
    rw [hQg]
    exact W.zret (v := (nI 0)) hx hb hr rfl (fun t ht hW => ⟨⟨(nI 0), (), rfl, rfl, by rw [ht]; exact hP9, va_K.moved hW.alike hK9, hD9⟩, hS.F ht⟩) hS.2.2 d_TB_isParticipant_18
  · refine lv_iload_n hx hb d_TB_isParticipant_5 rfl (lv_at hl 1 rfl) ?_
    refine lv_aload_n hx hb d_TB_isParticipant_6 rfl (lv_at hl 0 rfl) ?_
    refine va_get (D := (dC, dI)) (ci := 0) (v := .int (nI 0)) (C := R_TB) (T := F_TB) (N := 19) hx hb hts i_TB hown hK hP 0 rfl rfl 5 (by decide) (hts _ m_182) (fun _ h9 => h9) rfl d_TB_isParticipant_7 ?_
    refine lv_icmp_gt (tgt := 17) hx hb d_TB_isParticipant_10 (by decide) (fun c10 => ?_) (fun c10 => absurd (k_one c2) c10)
    refine lv_iconst (v := (nI 0)) hx hb d_TB_isParticipant_17 (by decide +kernel) ?_
    have hP9 := hP.sub (ws' := [(h0, .inr (0, [o0, o1, o2, o3, o4, .int (nI 0), o6, o7, o8, o9, o10, o11, o12, o13, o14, o15, o16, o17, o18]))]) [0] rfl
    have hD9 := hD.sub (ws' := [(h0, .inr (0, [o0, o1, o2, o3, o4, .int (nI 0), o6, o7, o8, o9, o10, o11, o12, o13, o14, o15, o16, o17, o18]))]) [0] (by decide) rfl
    have hK9 := hK.sub (tys' := []) [] rfl
    rw [hQg]
    exact W.zret (v := (nI 0)) hx hb hr rfl (fun t ht hW => ⟨⟨(nI 0), (), rfl, rfl, by rw [ht]; exact hP9, va_K.moved hW.alike hK9, hD9⟩, hS.F ht⟩) hS.2.2 d_TB_isParticipant_18

-- ThresholdBench.isIn
set_option maxHeartbeats 4000000 in
set_option maxRecDepth 100000 in
theorem c_TB_isIn (l : Launch) (dC : Nat → ClassId) (dI : Nat → Nat → Nat) (h0 : Nat) (p1 : Int32) (p2 : Int32) (o0 : Value) (o1 : Value) (o2 : Value) (o3 : Value) (o4 : Value) (o6 : Value) (o7 : Value) (o8 : Value) (o9 : Value) (o10 : Value) (o11 : Value) (o12 : Value) (o13 : Value) (o14 : Value) (o15 : Value) (o16 : Value) (o17 : Value) (o18 : Value) (sz : Nat)  : Met l y_TB_isIn (.code y_TB_isIn prog_1_method_24_code 3 (some .boolean) :: AW) ({ frames := 1, cells := 0, slots := 0, locals := 21 } : Room) (va_Pc [.ref h0, .int p1, .int p2] (pw (dC, dI) CL [(h0, .inr (0, [o0, o1, o2, o3, o4, .int (nI 0), o6, o7, o8, o9, o10, o11, o12, o13, o14, o15, o16, o17, o18]))] [] sz)) (va_Qi (fun (r : Int32) (u : Unit) => r = nI 0) (fun (u : Unit) t => qw (dC, dI) CL (va_A [(h0, .inr (0, [o0, o1, o2, o3, o4, .int (nI 0), o6, o7, o8, o9, o10, o11, o12, o13, o14, o15, o16, o17, o18]))] sz) ((fun _ : Unit => [(h0, .inr (0, [o0, o1, o2, o3, o4, .int (nI 0), o6, o7, o8, o9, o10, o11, o12, o13, o14, o15, o16, o17, o18]))]) u) ((fun _ : Unit => []) u) t) (va_A [(h0, .inr (0, [o0, o1, o2, o3, o4, .int (nI 0), o6, o7, o8, o9, o10, o11, o12, o13, o14, o15, o16, o17, o18]))] sz)) 0 0 (va_A [(h0, .inr (0, [o0, o1, o2, o3, o4, .int (nI 0), o6, o7, o8, o9, o10, o11, o12, o13, o14, o15, o16, o17, o18]))] sz) := by
  refine Met.ofW (cc := prog_1_method_24_code) (maxL := 3) (ret := (some .boolean)) (by decide) rfl ?_
  intro p e s m args below meth c s₁ B hml hv
  obtain ⟨rfl, hsz, hP, hK, hD0, hZ, hN⟩ := hv
  have hx := B.exec
  have hb := B.bytes
  have hr := B.returns
  have hts := kw (atoms_spec (ws := .code y_TB_isIn prog_1_method_24_code 3 (some .boolean) :: AW) B.pre)
  have hown : s.vm.findClass R_TB = some m.cls := findClass_of_methodNamed B.named
  have hlocks := B.notSynchronized
  subst hsz
  have hD := hD0.self (sz := s.heap.size)
  obtain ⟨Qg, hQg⟩ : ∃ q, q = MQ below (va_Qi (fun (r : Int32) (u : Unit) => r = nI 0) (fun (u : Unit) t => qw (dC, dI) CL (va_A [(h0, .inr (0, [o0, o1, o2, o3, o4, .int (nI 0), o6, o7, o8, o9, o10, o11, o12, o13, o14, o15, o16, o17, o18]))] s.heap.size) ((fun _ : Unit => [(h0, .inr (0, [o0, o1, o2, o3, o4, .int (nI 0), o6, o7, o8, o9, o10, o11, o12, o13, o14, o15, o16, o17, o18]))]) u) ((fun _ : Unit => []) u) t) (va_A [(h0, .inr (0, [o0, o1, o2, o3, o4, .int (nI 0), o6, o7, o8, o9, o10, o11, o12, o13, o14, o15, o16, o17, o18]))] s.heap.size)) ([.ref h0, .int p1, .int p2] : List Value).toArray s 0 0 (va_A [(h0, .inr (0, [o0, o1, o2, o3, o4, .int (nI 0), o6, o7, o8, o9, o10, o11, o12, o13, o14, o15, o16, o17, o18]))] s.heap.size) := ⟨_, rfl⟩
  rw [← hQg]
  generalize hAe : va_A [(h0, .inr (0, [o0, o1, o2, o3, o4, .int (nI 0), o6, o7, o8, o9, o10, o11, o12, o13, o14, o15, o16, o17, o18]))] s.heap.size = A at hD hZ hQg
  have hA : ∀ q : Nat, s.heap.size ≤ q → A q := fun q h => by rw [← hAe]; exact Or.inr h
  have hS : va_S A s.heap s.heap [] := va_S.rf
  have hP : va_P (dC, dI) CL [(h0, .inr (0, [o0, o1, o2, o3, o4, .int (nI 0), o6, o7, o8, o9, o10, o11, o12, o13, o14, o15, o16, o17, o18]))] s.heap := hP
  have hl := lv_entry ([.ref h0, .int p1, .int p2]) (n := 3) (Nat.le_of_ble_eq_true rfl)
  rw [lg_entry_eq]
  generalize (lg_sl ([.ref h0, .int p1, .int p2]) ++ List.replicate (3 - (lg_sl ([.ref h0, .int p1, .int p2])).length) Slot.unset).toArray = ls at hl ⊢
  have hl : lv_has ls 3 [(0, .ref h0), (1, .int p1), (2, .int p2)] := hl
  show W p l e ({ frames := 1, cells := 0, slots := 0, locals := 21 } : Room) s m ([.ref h0, .int p1, .int p2] : List Value).toArray below meth c s.heap [] 0 0 Qg (F0 m 0 ls [])
  refine lv_aload_n hx hb d_TB_isIn_0 rfl (lv_at hl 0 rfl) ?_
  refine lv_iload_n hx hb d_TB_isIn_1 rfl (lv_at hl 2 rfl) ?_
  refine k_fini (wr := []) [0] [] (k_runV (n := 1) (As := [.int p2]) (rest := []) (wc := [(h0, .inr (0, [o0, o1, o2, o3, o4, .int (nI 0), o6, o7, o8, o9, o10, o11, o12, o13, o14, o15, o16, o17, o18]))]) ⟨hx, hb, hml, hown, hts⟩ (c_TB_isPar l dC dI h0 p2 o0 o1 o2 o3 o4 o6 o7 o8 o9 o10 o11 o12 o13 o14 o15 o16 o17 o18 _ ) (kg_V m_237 m_238 m_239 m_163 (kg_code m_236)) (by decide +kernel) rfl rfl ⟨Nat.le_of_ble_eq_true rfl, Nat.le_of_ble_eq_true rfl⟩ [0] [] hP hD hK hS hA hZ hN (by rfl) (by decide) (by rfl) rfl rfl rfl rfl hl.1 rfl (Nat.le_of_ble_eq_true rfl) d_TB_isIn_2 ⟨(Nat.le_of_ble_eq_true rfl), (Nat.le_of_ble_eq_true rfl)⟩) hP hD hK hS hA (by rfl) (by rfl) (by decide) (by decide) (fun r_1 u9 H locs hw_2 hP hD hK hS => ?_)
  try dsimp only at hw_2
  have hP : va_P (dC, dI) CL [(h0, .inr (0, [o0, o1, o2, o3, o4, .int (nI 0), o6, o7, o8, o9, o10, o11, o12, o13, o14, o15, o16, o17, o18]))] H := hP
  have hD : va_D A [(h0, .inr (0, [o0, o1, o2, o3, o4, .int (nI 0), o6, o7, o8, o9, o10, o11, o12, o13, o14, o15, o16, o17, o18]))] := hD
  have hK : va_K (dC, dI) CL [] s := hK
  subst hw_2
  refine lv_if_eq (tgt := 21) hx hb d_TB_isIn_5 (by decide) (fun c5 => ?_) (fun c5 => absurd (by decide) c5)
  refine lv_iconst (v := (nI 0)) hx hb d_TB_isIn_21 (by decide +kernel) ?_
  have hP9 := hP.sub (ws' := [(h0, .inr (0, [o0, o1, o2, o3, o4, .int (nI 0), o6, o7, o8, o9, o10, o11, o12, o13, o14, o15, o16, o17, o18]))]) [0] rfl
  have hD9 := hD.sub (ws' := [(h0, .inr (0, [o0, o1, o2, o3, o4, .int (nI 0), o6, o7, o8, o9, o10, o11, o12, o13, o14, o15, o16, o17, o18]))]) [0] (by decide) rfl
  have hK9 := hK.sub (tys' := []) [] rfl
  rw [hQg]
  exact W.zret (v := (nI 0)) hx hb hr rfl (fun t ht hW => ⟨⟨(nI 0), (), rfl, rfl, by rw [ht]; exact hP9, va_K.moved hW.alike hK9, hD9⟩, hS.F ht⟩) hS.2.2 d_TB_isIn_22

-- ThresholdBench.isThere
set_option maxHeartbeats 4000000 in
set_option maxRecDepth 100000 in
theorem c_TB_isThere (l : Launch) (dC : Nat → ClassId) (dI : Nat → Nat → Nat) (h0 : Nat) (sg : Nat) (s1 : Value) (p1 : Int32) (p2 : Int32) (g2 : Value) (g3 : Value) (g4 : Value) (g5 : Value) (g6 : Value) (o0 : Value) (o1 : Value) (o2 : Value) (o3 : Value) (o7 : Value) (o8 : Value) (o10 : Value) (o11 : Value) (o12 : Value) (o13 : Value) (o14 : Value) (o15 : Value) (o16 : Value) (o17 : Value) (o18 : Value) (sz : Nat)  : Met l y_TB_isThere (.code y_TB_isThere prog_1_method_26_code 3 (some .boolean) :: AW) ({ frames := 2, cells := 0, slots := 0, locals := 43 } : Room) (va_Pc [.ref h0, .int p1, .int p2] (pw (dC, dI) CL [(h0, .inr (0, [o0, o1, o2, o3, .int (nI 0), .int (nI 0), .int (nI 0), o7, o8, .ref sg, o10, o11, o12, o13, o14, o15, o16, o17, o18])), (sg, .inr (2, [.int (nI 0), s1, g2, g3, g4, g5, g6]))] [] sz)) (va_Qi (fun (r : Int32) (u : Unit) => r = if p1 = nI 8 then nI 1 else nI 0) (fun (u : Unit) t => qw (dC, dI) CL (va_A [(h0, .inr (0, [o0, o1, o2, o3, .int (nI 0), .int (nI 0), .int (nI 0), o7, o8, .ref sg, o10, o11, o12, o13, o14, o15, o16, o17, o18])), (sg, .inr (2, [.int (nI 0), s1, g2, g3, g4, g5, g6]))] sz) ((fun _ : Unit => [(h0, .inr (0, [o0, o1, o2, o3, .int (nI 0), .int (nI 0), .int (nI 0), o7, o8, .ref sg, o10, o11, o12, o13, o14, o15, o16, o17, o18])), (sg, .inr (2, [.int (nI 0), s1, g2, g3, g4, g5, g6]))]) u) ((fun _ : Unit => []) u) t) (va_A [(h0, .inr (0, [o0, o1, o2, o3, .int (nI 0), .int (nI 0), .int (nI 0), o7, o8, .ref sg, o10, o11, o12, o13, o14, o15, o16, o17, o18])), (sg, .inr (2, [.int (nI 0), s1, g2, g3, g4, g5, g6]))] sz)) 0 0 (va_A [(h0, .inr (0, [o0, o1, o2, o3, .int (nI 0), .int (nI 0), .int (nI 0), o7, o8, .ref sg, o10, o11, o12, o13, o14, o15, o16, o17, o18])), (sg, .inr (2, [.int (nI 0), s1, g2, g3, g4, g5, g6]))] sz) := by
  refine Met.ofW (cc := prog_1_method_26_code) (maxL := 3) (ret := (some .boolean)) (by decide) rfl ?_
  intro p e s m args below meth c s₁ B hml hv
  obtain ⟨rfl, hsz, hP, hK, hD0, hZ, hN⟩ := hv
  have hx := B.exec
  have hb := B.bytes
  have hr := B.returns
  have hts := kw (atoms_spec (ws := .code y_TB_isThere prog_1_method_26_code 3 (some .boolean) :: AW) B.pre)
  have hown : s.vm.findClass R_TB = some m.cls := findClass_of_methodNamed B.named
  have hlocks := B.notSynchronized
  subst hsz
  have hD := hD0.self (sz := s.heap.size)
  obtain ⟨Qg, hQg⟩ : ∃ q, q = MQ below (va_Qi (fun (r : Int32) (u : Unit) => r = if p1 = nI 8 then nI 1 else nI 0) (fun (u : Unit) t => qw (dC, dI) CL (va_A [(h0, .inr (0, [o0, o1, o2, o3, .int (nI 0), .int (nI 0), .int (nI 0), o7, o8, .ref sg, o10, o11, o12, o13, o14, o15, o16, o17, o18])), (sg, .inr (2, [.int (nI 0), s1, g2, g3, g4, g5, g6]))] s.heap.size) ((fun _ : Unit => [(h0, .inr (0, [o0, o1, o2, o3, .int (nI 0), .int (nI 0), .int (nI 0), o7, o8, .ref sg, o10, o11, o12, o13, o14, o15, o16, o17, o18])), (sg, .inr (2, [.int (nI 0), s1, g2, g3, g4, g5, g6]))]) u) ((fun _ : Unit => []) u) t) (va_A [(h0, .inr (0, [o0, o1, o2, o3, .int (nI 0), .int (nI 0), .int (nI 0), o7, o8, .ref sg, o10, o11, o12, o13, o14, o15, o16, o17, o18])), (sg, .inr (2, [.int (nI 0), s1, g2, g3, g4, g5, g6]))] s.heap.size)) ([.ref h0, .int p1, .int p2] : List Value).toArray s 0 0 (va_A [(h0, .inr (0, [o0, o1, o2, o3, .int (nI 0), .int (nI 0), .int (nI 0), o7, o8, .ref sg, o10, o11, o12, o13, o14, o15, o16, o17, o18])), (sg, .inr (2, [.int (nI 0), s1, g2, g3, g4, g5, g6]))] s.heap.size) := ⟨_, rfl⟩
  rw [← hQg]
  generalize hAe : va_A [(h0, .inr (0, [o0, o1, o2, o3, .int (nI 0), .int (nI 0), .int (nI 0), o7, o8, .ref sg, o10, o11, o12, o13, o14, o15, o16, o17, o18])), (sg, .inr (2, [.int (nI 0), s1, g2, g3, g4, g5, g6]))] s.heap.size = A at hD hZ hQg
  have hA : ∀ q : Nat, s.heap.size ≤ q → A q := fun q h => by rw [← hAe]; exact Or.inr h
  have hS : va_S A s.heap s.heap [] := va_S.rf
  have hP : va_P (dC, dI) CL [(h0, .inr (0, [o0, o1, o2, o3, .int (nI 0), .int (nI 0), .int (nI 0), o7, o8, .ref sg, o10, o11, o12, o13, o14, o15, o16, o17, o18])), (sg, .inr (2, [.int (nI 0), s1, g2, g3, g4, g5, g6]))] s.heap := hP
  have hl := lv_entry ([.ref h0, .int p1, .int p2]) (n := 3) (Nat.le_of_ble_eq_true rfl)
  rw [lg_entry_eq]
  generalize (lg_sl ([.ref h0, .int p1, .int p2]) ++ List.replicate (3 - (lg_sl ([.ref h0, .int p1, .int p2])).length) Slot.unset).toArray = ls at hl ⊢
  have hl : lv_has ls 3 [(0, .ref h0), (1, .int p1), (2, .int p2)] := hl
  show W p l e ({ frames := 2, cells := 0, slots := 0, locals := 43 } : Room) s m ([.ref h0, .int p1, .int p2] : List Value).toArray below meth c s.heap [] 0 0 Qg (F0 m 0 ls [])
  refine lv_iload_n hx hb d_TB_isThere_0 rfl (lv_at hl 1 rfl) ?_
  rcases k_sw p1 7 (by decide) with cd1 | ⟨j1, hjj1, ejj1⟩
  · refine lv_tableOut (tgt := 124) hx hb d_TB_isThere_1 cd1 (by decide) ?_
    refine lv_iload_n hx hb d_TB_isThere_124 rfl (lv_at hl 1 rfl) ?_
    refine lv_bipush (v := (nI 8)) hx hb d_TB_isThere_125 (by decide +kernel) ?_
    refine lv_icmp_ne (tgt := 134) hx hb d_TB_isThere_127 (by decide) (fun c127 => ?_) (fun c127 => ?_)
    · refine lv_iconst (v := (nI 0)) hx hb d_TB_isThere_134 (by decide +kernel) ?_
      have hP9 := hP.sub (ws' := [(h0, .inr (0, [o0, o1, o2, o3, .int (nI 0), .int (nI 0), .int (nI 0), o7, o8, .ref sg, o10, o11, o12, o13, o14, o15, o16, o17, o18])), (sg, .inr (2, [.int (nI 0), s1, g2, g3, g4, g5, g6]))]) [0, 1] rfl
      have hD9 := hD.sub (ws' := [(h0, .inr (0, [o0, o1, o2, o3, .int (nI 0), .int (nI 0), .int (nI 0), o7, o8, .ref sg, o10, o11, o12, o13, o14, o15, o16, o17, o18])), (sg, .inr (2, [.int (nI 0), s1, g2, g3, g4, g5, g6]))]) [0, 1] (by decide) rfl
      have hK9 := hK.sub (tys' := []) [] rfl
      rw [hQg]
      exact W.zret (v := (nI 0)) hx hb hr rfl (fun t ht hW => ⟨⟨(nI 0), (), rfl, (by show _ = _; first | rw [if_pos c127] | rw [if_neg c127]), by rw [ht]; exact hP9, va_K.moved hW.alike hK9, hD9⟩, hS.F ht⟩) hS.2.2 d_TB_isThere_135
    · refine lv_iconst (v := (nI 1)) hx hb d_TB_isThere_130 (by decide +kernel) ?_
      refine lv_goto (tgt := 135) hx hb d_TB_isThere_131 (by decide) ?_
      have hP9 := hP.sub (ws' := [(h0, .inr (0, [o0, o1, o2, o3, .int (nI 0), .int (nI 0), .int (nI 0), o7, o8, .ref sg, o10, o11, o12, o13, o14, o15, o16, o17, o18])), (sg, .inr (2, [.int (nI 0), s1, g2, g3, g4, g5, g6]))]) [0, 1] rfl
      have hD9 := hD.sub (ws' := [(h0, .inr (0, [o0, o1, o2, o3, .int (nI 0), .int (nI 0), .int (nI 0), o7, o8, .ref sg, o10, o11, o12, o13, o14, o15, o16, o17, o18])), (sg, .inr (2, [.int (nI 0), s1, g2, g3, g4, g5, g6]))]) [0, 1] (by decide) rfl
      have hK9 := hK.sub (tys' := []) [] rfl
      rw [hQg]
      exact W.zret (v := (nI 1)) hx hb hr rfl (fun t ht hW => ⟨⟨(nI 1), (), rfl, (by show _ = _; first | rw [if_pos c127] | rw [if_neg c127]), by rw [ht]; exact hP9, va_K.moved hW.alike hK9, hD9⟩, hS.F ht⟩) hS.2.2 d_TB_isThere_135
  · rcases (show j1 = 0 ∨ j1 = 1 ∨ j1 = 2 ∨ j1 = 3 ∨ j1 = 4 ∨ j1 = 5 ∨ j1 = 6 ∨ j1 = 7 by omega) with rfl | rfl | rfl | rfl | rfl | rfl | rfl | rfl
    · refine ki (v := nI 0) ejj1 ?_
      refine lv_tableIn (tgt := 48) hx hb d_TB_isThere_1 (by decide) (by decide) (off := 47) (by decide) (by decide) ?_
      refine lv_aload_n hx hb d_TB_isThere_48 rfl (lv_at hl 0 rfl) ?_
      refine va_get (D := (dC, dI)) (ci := 0) (v := .int (nI 0)) (C := R_TB) (T := F_TB) (N := 19) hx hb hts i_TB hown hK hP 0 rfl rfl 5 (by decide) (hts _ m_182) (fun _ h9 => h9) rfl d_TB_isThere_49 ?_
      refine lv_if_eq (tgt := 59) hx hb d_TB_isThere_52 (by decide) (fun c52 => ?_) (fun c52 => absurd (by decide) c52)
      refine lv_iconst (v := (nI 0)) hx hb d_TB_isThere_59 (by decide +kernel) ?_
      have hP9 := hP.sub (ws' := [(h0, .inr (0, [o0, o1, o2, o3, .int (nI 0), .int (nI 0), .int (nI 0), o7, o8, .ref sg, o10, o11, o12, o13, o14, o15, o16, o17, o18])), (sg, .inr (2, [.int (nI 0), s1, g2, g3, g4, g5, g6]))]) [0, 1] rfl
      have hD9 := hD.sub (ws' := [(h0, .inr (0, [o0, o1, o2, o3, .int (nI 0), .int (nI 0), .int (nI 0), o7, o8, .ref sg, o10, o11, o12, o13, o14, o15, o16, o17, o18])), (sg, .inr (2, [.int (nI 0), s1, g2, g3, g4, g5, g6]))]) [0, 1] (by decide) rfl
      have hK9 := hK.sub (tys' := []) [] rfl
      rw [hQg]
      exact W.zret (v := (nI 0)) hx hb hr rfl (fun t ht hW => ⟨⟨(nI 0), (), rfl, (by show _ = _; rw [ejj1]; decide), by rw [ht]; exact hP9, va_K.moved hW.alike hK9, hD9⟩, hS.F ht⟩) hS.2.2 d_TB_isThere_60
    · refine ki (v := nI 1) ejj1 ?_
      refine lv_tableIn (tgt := 61) hx hb d_TB_isThere_1 (by decide) (by decide) (off := 60) (by decide) (by decide) ?_
      refine lv_aload_n hx hb d_TB_isThere_61 rfl (lv_at hl 0 rfl) ?_
      refine lv_iload_n hx hb d_TB_isThere_62 rfl (lv_at hl 2 rfl) ?_
      refine k_fini (wr := [(sg, .inr (2, [.int (nI 0), s1, g2, g3, g4, g5, g6]))]) [0] [1] (k_runV (n := 1) (As := [.int p2]) (rest := []) (wc := [(h0, .inr (0, [o0, o1, o2, o3, .int (nI 0), .int (nI 0), .int (nI 0), o7, o8, .ref sg, o10, o11, o12, o13, o14, o15, o16, o17, o18]))]) ⟨hx, hb, hml, hown, hts⟩ (c_TB_isPar l dC dI h0 p2 o0 o1 o2 o3 (.int (nI 0)) (.int (nI 0)) o7 o8 (.ref sg) o10 o11 o12 o13 o14 o15 o16 o17 o18 _ ) (kg_V m_237 m_238 m_239 m_163 (kg_code m_236)) (by decide +kernel) rfl rfl ⟨Nat.le_of_ble_eq_true rfl, Nat.le_of_ble_eq_true rfl⟩ [0] [] hP hD hK hS hA hZ hN (by rfl) (by decide) (by rfl) rfl rfl rfl rfl hl.1 rfl (Nat.le_of_ble_eq_true rfl) d_TB_isThere_63 ⟨(Nat.le_of_ble_eq_true rfl), (Nat.le_of_ble_eq_true rfl)⟩) hP hD hK hS hA (by rfl) (by rfl) (by decide) (by decide) (fun r_1 u9 H locs hw_2 hP hD hK hS => ?_)
      try dsimp only at hw_2
      have hP : va_P (dC, dI) CL [(sg, .inr (2, [.int (nI 0), s1, g2, g3, g4, g5, g6])), (h0, .inr (0, [o0, o1, o2, o3, .int (nI 0), .int (nI 0), .int (nI 0), o7, o8, .ref sg, o10, o11, o12, o13, o14, o15, o16, o17, o18]))] H := hP
      have hD : va_D A [(sg, .inr (2, [.int (nI 0), s1, g2, g3, g4, g5, g6])), (h0, .inr (0, [o0, o1, o2, o3, .int (nI 0), .int (nI 0), .int (nI 0), o7, o8, .ref sg, o10, o11, o12, o13, o14, o15, o16, o17, o18]))] := hD
      have hK : va_K (dC, dI) CL [] s := hK
      subst hw_2
      have hP9 := hP.sub (ws' := [(h0, .inr (0, [o0, o1, o2, o3, .int (nI 0), .int (nI 0), .int (nI 0), o7, o8, .ref sg, o10, o11, o12, o13, o14, o15, o16, o17, o18])), (sg, .inr (2, [.int (nI 0), s1, g2, g3, g4, g5, g6]))]) [1, 0] rfl
      have hD9 := hD.sub (ws' := [(h0, .inr (0, [o0, o1, o2, o3, .int (nI 0), .int (nI 0), .int (nI 0), o7, o8, .ref sg, o10, o11, o12, o13, o14, o15, o16, o17, o18])), (sg, .inr (2, [.int (nI 0), s1, g2, g3, g4, g5, g6]))]) [1, 0] (by decide) rfl
      have hK9 := hK.sub (tys' := []) [] rfl
      rw [hQg]
      exact W.zret (v := (nI 0)) hx hb hr rfl (fun t ht hW => ⟨⟨(nI 0), (), rfl, (by show _ = _; rw [ejj1]; decide), by rw [ht]; exact hP9, va_K.moved hW.alike hK9, hD9⟩, hS.F ht⟩) hS.2.2 d_TB_isThere_66
    · refine ki (v := nI 2) ejj1 ?_
      refine lv_tableIn (tgt := 61) hx hb d_TB_isThere_1 (by decide) (by decide) (off := 60) (by decide) (by decide) ?_
      refine lv_aload_n hx hb d_TB_isThere_61 rfl (lv_at hl 0 rfl) ?_
      refine lv_iload_n hx hb d_TB_isThere_62 rfl (lv_at hl 2 rfl) ?_
      refine k_fini (wr := [(sg, .inr (2, [.int (nI 0), s1, g2, g3, g4, g5, g6]))]) [0] [1] (k_runV (n := 1) (As := [.int p2]) (rest := []) (wc := [(h0, .inr (0, [o0, o1, o2, o3, .int (nI 0), .int (nI 0), .int (nI 0), o7, o8, .ref sg, o10, o11, o12, o13, o14, o15, o16, o17, o18]))]) ⟨hx, hb, hml, hown, hts⟩ (c_TB_isPar l dC dI h0 p2 o0 o1 o2 o3 (.int (nI 0)) (.int (nI 0)) o7 o8 (.ref sg) o10 o11 o12 o13 o14 o15 o16 o17 o18 _ ) (kg_V m_237 m_238 m_239 m_163 (kg_code m_236)) (by decide +kernel) rfl rfl ⟨Nat.le_of_ble_eq_true rfl, Nat.le_of_ble_eq_true rfl⟩ [0] [] hP hD hK hS hA hZ hN (by rfl) (by decide) (by rfl) rfl rfl rfl rfl hl.1 rfl (Nat.le_of_ble_eq_true rfl) d_TB_isThere_63 ⟨(Nat.le_of_ble_eq_true rfl), (Nat.le_of_ble_eq_true rfl)⟩) hP hD hK hS hA (by rfl) (by rfl) (by decide) (by decide) (fun r_3 u9 H locs hw_4 hP hD hK hS => ?_)
      try dsimp only at hw_4
      have hP : va_P (dC, dI) CL [(sg, .inr (2, [.int (nI 0), s1, g2, g3, g4, g5, g6])), (h0, .inr (0, [o0, o1, o2, o3, .int (nI 0), .int (nI 0), .int (nI 0), o7, o8, .ref sg, o10, o11, o12, o13, o14, o15, o16, o17, o18]))] H := hP
      have hD : va_D A [(sg, .inr (2, [.int (nI 0), s1, g2, g3, g4, g5, g6])), (h0, .inr (0, [o0, o1, o2, o3, .int (nI 0), .int (nI 0), .int (nI 0), o7, o8, .ref sg, o10, o11, o12, o13, o14, o15, o16, o17, o18]))] := hD
      have hK : va_K (dC, dI) CL [] s := hK
      subst hw_4
      have hP9 := hP.sub (ws' := [(h0, .inr (0, [o0, o1, o2, o3, .int (nI 0), .int (nI 0), .int (nI 0), o7, o8, .ref sg, o10, o11, o12, o13, o14, o15, o16, o17, o18])), (sg, .inr (2, [.int (nI 0), s1, g2, g3, g4, g5, g6]))]) [1, 0] rfl
      have hD9 := hD.sub (ws' := [(h0, .inr (0, [o0, o1, o2, o3, .int (nI 0), .int (nI 0), .int (nI 0), o7, o8, .ref sg, o10, o11, o12, o13, o14, o15, o16, o17, o18])), (sg, .inr (2, [.int (nI 0), s1, g2, g3, g4, g5, g6]))]) [1, 0] (by decide) rfl
      have hK9 := hK.sub (tys' := []) [] rfl
      rw [hQg]
      exact W.zret (v := (nI 0)) hx hb hr rfl (fun t ht hW => ⟨⟨(nI 0), (), rfl, (by show _ = _; rw [ejj1]; decide), by rw [ht]; exact hP9, va_K.moved hW.alike hK9, hD9⟩, hS.F ht⟩) hS.2.2 d_TB_isThere_66
    · refine ki (v := nI 3) ejj1 ?_
      refine lv_tableIn (tgt := 67) hx hb d_TB_isThere_1 (by decide) (by decide) (off := 66) (by decide) (by decide) ?_
      refine lv_iload_n hx hb d_TB_isThere_67 rfl (lv_at hl 2 rfl) ?_
      refine lv_if_lt (tgt := 83) hx hb d_TB_isThere_68 (by decide) (fun c68 => ?_) (fun c68 => ?_)
      · refine lv_iconst (v := (nI 0)) hx hb d_TB_isThere_83 (by decide +kernel) ?_
        have hP9 := hP.sub (ws' := [(h0, .inr (0, [o0, o1, o2, o3, .int (nI 0), .int (nI 0), .int (nI 0), o7, o8, .ref sg, o10, o11, o12, o13, o14, o15, o16, o17, o18])), (sg, .inr (2, [.int (nI 0), s1, g2, g3, g4, g5, g6]))]) [0, 1] rfl
        have hD9 := hD.sub (ws' := [(h0, .inr (0, [o0, o1, o2, o3, .int (nI 0), .int (nI 0), .int (nI 0), o7, o8, .ref sg, o10, o11, o12, o13, o14, o15, o16, o17, o18])), (sg, .inr (2, [.int (nI 0), s1, g2, g3, g4, g5, g6]))]) [0, 1] (by decide) rfl
        have hK9 := hK.sub (tys' := []) [] rfl
        rw [hQg]
        exact W.zret (v := (nI 0)) hx hb hr rfl (fun t ht hW => ⟨⟨(nI 0), (), rfl, (by show _ = _; rw [ejj1]; decide), by rw [ht]; exact hP9, va_K.moved hW.alike hK9, hD9⟩, hS.F ht⟩) hS.2.2 d_TB_isThere_84
      · refine lv_iload_n hx hb d_TB_isThere_71 rfl (lv_at hl 2 rfl) ?_
        refine lv_aload_n hx hb d_TB_isThere_72 rfl (lv_at hl 0 rfl) ?_
        refine va_get (D := (dC, dI)) (ci := 0) (v := .int (nI 0)) (C := R_TB) (T := F_TB) (N := 19) hx hb hts i_TB hown hK hP 0 rfl rfl 4 (by decide) (hts _ m_240) (fun _ h9 => h9) rfl d_TB_isThere_73 ?_
        refine lv_icmp_ge (tgt := 83) hx hb d_TB_isThere_76 (by decide) (fun c76 => ?_) (fun c76 => absurd (k_ge0 c68) c76)
        refine lv_iconst (v := (nI 0)) hx hb d_TB_isThere_83 (by decide +kernel) ?_
        have hP9 := hP.sub (ws' := [(h0, .inr (0, [o0, o1, o2, o3, .int (nI 0), .int (nI 0), .int (nI 0), o7, o8, .ref sg, o10, o11, o12, o13, o14, o15, o16, o17, o18])), (sg, .inr (2, [.int (nI 0), s1, g2, g3, g4, g5, g6]))]) [0, 1] rfl
        have hD9 := hD.sub (ws' := [(h0, .inr (0, [o0, o1, o2, o3, .int (nI 0), .int (nI 0), .int (nI 0), o7, o8, .ref sg, o10, o11, o12, o13, o14, o15, o16, o17, o18])), (sg, .inr (2, [.int (nI 0), s1, g2, g3, g4, g5, g6]))]) [0, 1] (by decide) rfl
        have hK9 := hK.sub (tys' := []) [] rfl
        rw [hQg]
        exact W.zret (v := (nI 0)) hx hb hr rfl (fun t ht hW => ⟨⟨(nI 0), (), rfl, (by show _ = _; rw [ejj1]; decide), by rw [ht]; exact hP9, va_K.moved hW.alike hK9, hD9⟩, hS.F ht⟩) hS.2.2 d_TB_isThere_84
    · refine ki (v := nI 4) ejj1 ?_
      refine lv_tableIn (tgt := 85) hx hb d_TB_isThere_1 (by decide) (by decide) (off := 84) (by decide) (by decide) ?_
      refine lv_aload_n hx hb d_TB_isThere_85 rfl (lv_at hl 0 rfl) ?_
      refine lv_aload_n hx hb d_TB_isThere_86 rfl (lv_at hl 0 rfl) ?_
      refine va_get (D := (dC, dI)) (ci := 0) (v := .int (nI 0)) (C := R_TB) (T := F_TB) (N := 19) hx hb hts i_TB hown hK hP 0 rfl rfl 6 (by decide) (hts _ m_241) (fun _ h9 => h9) rfl d_TB_isThere_87 ?_
      refine lv_iload_n hx hb d_TB_isThere_90 rfl (lv_at hl 2 rfl) ?_
      refine k_fini (wr := [(sg, .inr (2, [.int (nI 0), s1, g2, g3, g4, g5, g6]))]) [0] [1] (k_runV (n := 2) (As := [.int (nI 0), .int p2]) (rest := []) (wc := [(h0, .inr (0, [o0, o1, o2, o3, .int (nI 0), .int (nI 0), .int (nI 0), o7, o8, .ref sg, o10, o11, o12, o13, o14, o15, o16, o17, o18]))]) ⟨hx, hb, hml, hown, hts⟩ (c_TB_isIn l dC dI h0 (nI 0) p2 o0 o1 o2 o3 (.int (nI 0)) (.int (nI 0)) o7 o8 (.ref sg) o10 o11 o12 o13 o14 o15 o16 o17 o18 _ ) (kg_V m_243 m_244 m_245 m_163 (kg_code m_242)) (by decide +kernel) rfl rfl ⟨Nat.le_of_ble_eq_true rfl, Nat.le_of_ble_eq_true rfl⟩ [0] [] hP hD hK hS hA hZ hN (by rfl) (by decide) (by rfl) rfl rfl rfl rfl hl.1 rfl (Nat.le_of_ble_eq_true rfl) d_TB_isThere_91 ⟨(Nat.le_of_ble_eq_true rfl), (Nat.le_of_ble_eq_true rfl)⟩) hP hD hK hS hA (by rfl) (by rfl) (by decide) (by decide) (fun r_5 u9 H locs hw_6 hP hD hK hS => ?_)
      try dsimp only at hw_6
      have hP : va_P (dC, dI) CL [(sg, .inr (2, [.int (nI 0), s1, g2, g3, g4, g5, g6])), (h0, .inr (0, [o0, o1, o2, o3, .int (nI 0), .int (nI 0), .int (nI 0), o7, o8, .ref sg, o10, o11, o12, o13, o14, o15, o16, o17, o18]))] H := hP
      have hD : va_D A [(sg, .inr (2, [.int (nI 0), s1, g2, g3, g4, g5, g6])), (h0, .inr (0, [o0, o1, o2, o3, .int (nI 0), .int (nI 0), .int (nI 0), o7, o8, .ref sg, o10, o11, o12, o13, o14, o15, o16, o17, o18]))] := hD
      have hK : va_K (dC, dI) CL [] s := hK
      subst hw_6
      have hP9 := hP.sub (ws' := [(h0, .inr (0, [o0, o1, o2, o3, .int (nI 0), .int (nI 0), .int (nI 0), o7, o8, .ref sg, o10, o11, o12, o13, o14, o15, o16, o17, o18])), (sg, .inr (2, [.int (nI 0), s1, g2, g3, g4, g5, g6]))]) [1, 0] rfl
      have hD9 := hD.sub (ws' := [(h0, .inr (0, [o0, o1, o2, o3, .int (nI 0), .int (nI 0), .int (nI 0), o7, o8, .ref sg, o10, o11, o12, o13, o14, o15, o16, o17, o18])), (sg, .inr (2, [.int (nI 0), s1, g2, g3, g4, g5, g6]))]) [1, 0] (by decide) rfl
      have hK9 := hK.sub (tys' := []) [] rfl
      rw [hQg]
      exact W.zret (v := (nI 0)) hx hb hr rfl (fun t ht hW => ⟨⟨(nI 0), (), rfl, (by show _ = _; rw [ejj1]; decide), by rw [ht]; exact hP9, va_K.moved hW.alike hK9, hD9⟩, hS.F ht⟩) hS.2.2 d_TB_isThere_94
    · refine ki (v := nI 5) ejj1 ?_
      refine lv_tableIn (tgt := 95) hx hb d_TB_isThere_1 (by decide) (by decide) (off := 94) (by decide) (by decide) ?_
      refine lv_aload_n hx hb d_TB_isThere_95 rfl (lv_at hl 0 rfl) ?_
      refine lv_aload_n hx hb d_TB_isThere_96 rfl (lv_at hl 0 rfl) ?_
      refine va_get (D := (dC, dI)) (ci := 0) (v := .ref sg) (C := R_TB) (T := F_TB) (N := 19) hx hb hts i_TB hown hK hP 0 rfl rfl 9 (by decide) (hts _ m_119) (fun _ h9 => h9) rfl d_TB_isThere_97 ?_
      refine va_get (D := (dC, dI)) (ci := 2) (v := .int (nI 0)) (C := R_Sig) (T := F_Sig) (N := 7) hx hb hts i_Sig hown hK hP 1 rfl rfl 0 (by decide) (hts _ m_168) (fun _ h9 => h9) rfl d_TB_isThere_100 ?_
      refine lv_iload_n hx hb d_TB_isThere_103 rfl (lv_at hl 2 rfl) ?_
      refine k_fini (wr := [(sg, .inr (2, [.int (nI 0), s1, g2, g3, g4, g5, g6]))]) [0] [1] (k_runV (n := 2) (As := [.int (nI 0), .int p2]) (rest := []) (wc := [(h0, .inr (0, [o0, o1, o2, o3, .int (nI 0), .int (nI 0), .int (nI 0), o7, o8, .ref sg, o10, o11, o12, o13, o14, o15, o16, o17, o18]))]) ⟨hx, hb, hml, hown, hts⟩ (c_TB_isIn l dC dI h0 (nI 0) p2 o0 o1 o2 o3 (.int (nI 0)) (.int (nI 0)) o7 o8 (.ref sg) o10 o11 o12 o13 o14 o15 o16 o17 o18 _ ) (kg_V m_243 m_244 m_245 m_163 (kg_code m_242)) (by decide +kernel) rfl rfl ⟨Nat.le_of_ble_eq_true rfl, Nat.le_of_ble_eq_true rfl⟩ [0] [] hP hD hK hS hA hZ hN (by rfl) (by decide) (by rfl) rfl rfl rfl rfl hl.1 rfl (Nat.le_of_ble_eq_true rfl) d_TB_isThere_104 ⟨(Nat.le_of_ble_eq_true rfl), (Nat.le_of_ble_eq_true rfl)⟩) hP hD hK hS hA (by rfl) (by rfl) (by decide) (by decide) (fun r_7 u9 H locs hw_8 hP hD hK hS => ?_)
      try dsimp only at hw_8
      have hP : va_P (dC, dI) CL [(sg, .inr (2, [.int (nI 0), s1, g2, g3, g4, g5, g6])), (h0, .inr (0, [o0, o1, o2, o3, .int (nI 0), .int (nI 0), .int (nI 0), o7, o8, .ref sg, o10, o11, o12, o13, o14, o15, o16, o17, o18]))] H := hP
      have hD : va_D A [(sg, .inr (2, [.int (nI 0), s1, g2, g3, g4, g5, g6])), (h0, .inr (0, [o0, o1, o2, o3, .int (nI 0), .int (nI 0), .int (nI 0), o7, o8, .ref sg, o10, o11, o12, o13, o14, o15, o16, o17, o18]))] := hD
      have hK : va_K (dC, dI) CL [] s := hK
      subst hw_8
      have hP9 := hP.sub (ws' := [(h0, .inr (0, [o0, o1, o2, o3, .int (nI 0), .int (nI 0), .int (nI 0), o7, o8, .ref sg, o10, o11, o12, o13, o14, o15, o16, o17, o18])), (sg, .inr (2, [.int (nI 0), s1, g2, g3, g4, g5, g6]))]) [1, 0] rfl
      have hD9 := hD.sub (ws' := [(h0, .inr (0, [o0, o1, o2, o3, .int (nI 0), .int (nI 0), .int (nI 0), o7, o8, .ref sg, o10, o11, o12, o13, o14, o15, o16, o17, o18])), (sg, .inr (2, [.int (nI 0), s1, g2, g3, g4, g5, g6]))]) [1, 0] (by decide) rfl
      have hK9 := hK.sub (tys' := []) [] rfl
      rw [hQg]
      exact W.zret (v := (nI 0)) hx hb hr rfl (fun t ht hW => ⟨⟨(nI 0), (), rfl, (by show _ = _; rw [ejj1]; decide), by rw [ht]; exact hP9, va_K.moved hW.alike hK9, hD9⟩, hS.F ht⟩) hS.2.2 d_TB_isThere_107
    · refine ki (v := nI 6) ejj1 ?_
      refine lv_tableIn (tgt := 108) hx hb d_TB_isThere_1 (by decide) (by decide) (off := 107) (by decide) (by decide) ?_
      refine lv_aload_n hx hb d_TB_isThere_108 rfl (lv_at hl 0 rfl) ?_
      refine va_get (D := (dC, dI)) (ci := 0) (v := .ref sg) (C := R_TB) (T := F_TB) (N := 19) hx hb hts i_TB hown hK hP 0 rfl rfl 9 (by decide) (hts _ m_119) (fun _ h9 => h9) rfl d_TB_isThere_109 ?_
      refine va_get (D := (dC, dI)) (ci := 2) (v := .int (nI 0)) (C := R_Sig) (T := F_Sig) (N := 7) hx hb hts i_Sig hown hK hP 1 rfl rfl 0 (by decide) (hts _ m_168) (fun _ h9 => h9) rfl d_TB_isThere_112 ?_
      refine lv_if_eq (tgt := 122) hx hb d_TB_isThere_115 (by decide) (fun c115 => ?_) (fun c115 => absurd (by decide) c115)
      refine lv_iconst (v := (nI 0)) hx hb d_TB_isThere_122 (by decide +kernel) ?_
      have hP9 := hP.sub (ws' := [(h0, .inr (0, [o0, o1, o2, o3, .int (nI 0), .int (nI 0), .int (nI 0), o7, o8, .ref sg, o10, o11, o12, o13, o14, o15, o16, o17, o18])), (sg, .inr (2, [.int (nI 0), s1, g2, g3, g4, g5, g6]))]) [0, 1] rfl
      have hD9 := hD.sub (ws' := [(h0, .inr (0, [o0, o1, o2, o3, .int (nI 0), .int (nI 0), .int (nI 0), o7, o8, .ref sg, o10, o11, o12, o13, o14, o15, o16, o17, o18])), (sg, .inr (2, [.int (nI 0), s1, g2, g3, g4, g5, g6]))]) [0, 1] (by decide) rfl
      have hK9 := hK.sub (tys' := []) [] rfl
      rw [hQg]
      exact W.zret (v := (nI 0)) hx hb hr rfl (fun t ht hW => ⟨⟨(nI 0), (), rfl, (by show _ = _; rw [ejj1]; decide), by rw [ht]; exact hP9, va_K.moved hW.alike hK9, hD9⟩, hS.F ht⟩) hS.2.2 d_TB_isThere_123
    · refine ki (v := nI 7) ejj1 ?_
      refine lv_tableIn (tgt := 95) hx hb d_TB_isThere_1 (by decide) (by decide) (off := 94) (by decide) (by decide) ?_
      refine lv_aload_n hx hb d_TB_isThere_95 rfl (lv_at hl 0 rfl) ?_
      refine lv_aload_n hx hb d_TB_isThere_96 rfl (lv_at hl 0 rfl) ?_
      refine va_get (D := (dC, dI)) (ci := 0) (v := .ref sg) (C := R_TB) (T := F_TB) (N := 19) hx hb hts i_TB hown hK hP 0 rfl rfl 9 (by decide) (hts _ m_119) (fun _ h9 => h9) rfl d_TB_isThere_97 ?_
      refine va_get (D := (dC, dI)) (ci := 2) (v := .int (nI 0)) (C := R_Sig) (T := F_Sig) (N := 7) hx hb hts i_Sig hown hK hP 1 rfl rfl 0 (by decide) (hts _ m_168) (fun _ h9 => h9) rfl d_TB_isThere_100 ?_
      refine lv_iload_n hx hb d_TB_isThere_103 rfl (lv_at hl 2 rfl) ?_
      refine k_fini (wr := [(sg, .inr (2, [.int (nI 0), s1, g2, g3, g4, g5, g6]))]) [0] [1] (k_runV (n := 2) (As := [.int (nI 0), .int p2]) (rest := []) (wc := [(h0, .inr (0, [o0, o1, o2, o3, .int (nI 0), .int (nI 0), .int (nI 0), o7, o8, .ref sg, o10, o11, o12, o13, o14, o15, o16, o17, o18]))]) ⟨hx, hb, hml, hown, hts⟩ (c_TB_isIn l dC dI h0 (nI 0) p2 o0 o1 o2 o3 (.int (nI 0)) (.int (nI 0)) o7 o8 (.ref sg) o10 o11 o12 o13 o14 o15 o16 o17 o18 _ ) (kg_V m_243 m_244 m_245 m_163 (kg_code m_242)) (by decide +kernel) rfl rfl ⟨Nat.le_of_ble_eq_true rfl, Nat.le_of_ble_eq_true rfl⟩ [0] [] hP hD hK hS hA hZ hN (by rfl) (by decide) (by rfl) rfl rfl rfl rfl hl.1 rfl (Nat.le_of_ble_eq_true rfl) d_TB_isThere_104 ⟨(Nat.le_of_ble_eq_true rfl), (Nat.le_of_ble_eq_true rfl)⟩) hP hD hK hS hA (by rfl) (by rfl) (by decide) (by decide) (fun r_9 u9 H locs hw_10 hP hD hK hS => ?_)
      try dsimp only at hw_10
      have hP : va_P (dC, dI) CL [(sg, .inr (2, [.int (nI 0), s1, g2, g3, g4, g5, g6])), (h0, .inr (0, [o0, o1, o2, o3, .int (nI 0), .int (nI 0), .int (nI 0), o7, o8, .ref sg, o10, o11, o12, o13, o14, o15, o16, o17, o18]))] H := hP
      have hD : va_D A [(sg, .inr (2, [.int (nI 0), s1, g2, g3, g4, g5, g6])), (h0, .inr (0, [o0, o1, o2, o3, .int (nI 0), .int (nI 0), .int (nI 0), o7, o8, .ref sg, o10, o11, o12, o13, o14, o15, o16, o17, o18]))] := hD
      have hK : va_K (dC, dI) CL [] s := hK
      subst hw_10
      have hP9 := hP.sub (ws' := [(h0, .inr (0, [o0, o1, o2, o3, .int (nI 0), .int (nI 0), .int (nI 0), o7, o8, .ref sg, o10, o11, o12, o13, o14, o15, o16, o17, o18])), (sg, .inr (2, [.int (nI 0), s1, g2, g3, g4, g5, g6]))]) [1, 0] rfl
      have hD9 := hD.sub (ws' := [(h0, .inr (0, [o0, o1, o2, o3, .int (nI 0), .int (nI 0), .int (nI 0), o7, o8, .ref sg, o10, o11, o12, o13, o14, o15, o16, o17, o18])), (sg, .inr (2, [.int (nI 0), s1, g2, g3, g4, g5, g6]))]) [1, 0] (by decide) rfl
      have hK9 := hK.sub (tys' := []) [] rfl
      rw [hQg]
      exact W.zret (v := (nI 0)) hx hb hr rfl (fun t ht hW => ⟨⟨(nI 0), (), rfl, (by show _ = _; rw [ejj1]; decide), by rw [ht]; exact hP9, va_K.moved hW.alike hK9, hD9⟩, hS.F ht⟩) hS.2.2 d_TB_isThere_107

-- ThresholdBench.show
set_option maxHeartbeats 4000000 in
set_option maxRecDepth 100000 in
theorem c_TB_show (l : Launch) (dC : Nat → ClassId) (dI : Nat → Nat → Nat) (h0 : Nat) (t2 : Nat) (v2 : Value) (t3 : Nat) (b3 : Nat) (k3 : ClassId) (fb : Nat → Int32) (sg : Nat) (s1 : Value) (g2 : Value) (g3 : Value) (g4 : Value) (g5 : Value) (g6 : Value) (dg : Nat) (y1 : Value) (y2 : Value) (y3 : Value) (y4 : Value) (s0 : Nat) (a : Nat) (b : Nat) (ka : ClassId) (kb : ClassId) (f : Nat → Int32) (g : Nat → Int32) (tk : Int32) (p1 : Int32) (p2 : Int32) (o0 : Value) (o1 : Value) (o7 : Value) (o8 : Value) (o10 : Value) (o11 : Value) (o12 : Value) (o14 : Value) (o15 : Value) (o16 : Value) (o17 : Value) (o18 : Value) (sz : Nat)  : Met l y_TB_show (.code y_TB_show prog_1_method_13_code 3 (some .int) :: AW) ({ frames := 5, cells := 0, slots := 0, locals := 126 } : Room) (va_Pc [.ref h0, .int p1, .int p2] (pw (dC, dI) CL [(h0, .inr (0, [o0, o1, .ref t2, .ref t3, .int (nI 0), .int (nI 0), .int (nI 0), o7, o8, .ref sg, o10, o11, o12, .ref dg, o14, o15, o16, o17, o18])), (t2, .inr (1, [v2, .int (nI 0)])), (t3, .inr (1, [.ref b3, .int (nI 0)])), (b3, .inl (k3, 66, .inl fb)), (sg, .inr (2, [.int (nI 0), s1, g2, g3, g4, g5, g6])), (dg, .inr (9, [.ref s0, y1, y2, y3, y4])), (s0, .inr (10, [.ref a, .ref b, .int tk])), (a, .inl (ka, 8, .inl f)), (b, .inl (kb, 64, .inl g))] [(k3, .byte), (ka, .int), (kb, .int)] sz)) (va_Qi (fun (r : Int32) (u : Unit) => r = if p1 = nI 8 then nI 32 else nI 0) (fun (u : Unit) t => qw (dC, dI) CL (va_A [(h0, .inr (0, [o0, o1, .ref t2, .ref t3, .int (nI 0), .int (nI 0), .int (nI 0), o7, o8, .ref sg, o10, o11, o12, .ref dg, o14, o15, o16, o17, o18])), (t2, .inr (1, [v2, .int (nI 0)])), (t3, .inr (1, [.ref b3, .int (nI 0)])), (b3, .inl (k3, 66, .inl fb)), (sg, .inr (2, [.int (nI 0), s1, g2, g3, g4, g5, g6])), (dg, .inr (9, [.ref s0, y1, y2, y3, y4])), (s0, .inr (10, [.ref a, .ref b, .int tk])), (a, .inl (ka, 8, .inl f)), (b, .inl (kb, 64, .inl g))] sz) ((fun _ : Unit => []) u) ((fun _ : Unit => []) u) t) (va_A [(h0, .inr (0, [o0, o1, .ref t2, .ref t3, .int (nI 0), .int (nI 0), .int (nI 0), o7, o8, .ref sg, o10, o11, o12, .ref dg, o14, o15, o16, o17, o18])), (t2, .inr (1, [v2, .int (nI 0)])), (t3, .inr (1, [.ref b3, .int (nI 0)])), (b3, .inl (k3, 66, .inl fb)), (sg, .inr (2, [.int (nI 0), s1, g2, g3, g4, g5, g6])), (dg, .inr (9, [.ref s0, y1, y2, y3, y4])), (s0, .inr (10, [.ref a, .ref b, .int tk])), (a, .inl (ka, 8, .inl f)), (b, .inl (kb, 64, .inl g))] sz)) 0 0 (va_A [(h0, .inr (0, [o0, o1, .ref t2, .ref t3, .int (nI 0), .int (nI 0), .int (nI 0), o7, o8, .ref sg, o10, o11, o12, .ref dg, o14, o15, o16, o17, o18])), (t2, .inr (1, [v2, .int (nI 0)])), (t3, .inr (1, [.ref b3, .int (nI 0)])), (b3, .inl (k3, 66, .inl fb)), (sg, .inr (2, [.int (nI 0), s1, g2, g3, g4, g5, g6])), (dg, .inr (9, [.ref s0, y1, y2, y3, y4])), (s0, .inr (10, [.ref a, .ref b, .int tk])), (a, .inl (ka, 8, .inl f)), (b, .inl (kb, 64, .inl g))] sz) := by
  refine Met.ofW (cc := prog_1_method_13_code) (maxL := 3) (ret := (some .int)) (by decide) rfl ?_
  intro p e s m args below meth c s₁ B hml hv
  obtain ⟨rfl, hsz, hP, hK, hD0, hZ, hN⟩ := hv
  have hx := B.exec
  have hb := B.bytes
  have hr := B.returns
  have hts := kw (atoms_spec (ws := .code y_TB_show prog_1_method_13_code 3 (some .int) :: AW) B.pre)
  have hown : s.vm.findClass R_TB = some m.cls := findClass_of_methodNamed B.named
  have hlocks := B.notSynchronized
  subst hsz
  have hD := hD0.self (sz := s.heap.size)
  obtain ⟨Qg, hQg⟩ : ∃ q, q = MQ below (va_Qi (fun (r : Int32) (u : Unit) => r = if p1 = nI 8 then nI 32 else nI 0) (fun (u : Unit) t => qw (dC, dI) CL (va_A [(h0, .inr (0, [o0, o1, .ref t2, .ref t3, .int (nI 0), .int (nI 0), .int (nI 0), o7, o8, .ref sg, o10, o11, o12, .ref dg, o14, o15, o16, o17, o18])), (t2, .inr (1, [v2, .int (nI 0)])), (t3, .inr (1, [.ref b3, .int (nI 0)])), (b3, .inl (k3, 66, .inl fb)), (sg, .inr (2, [.int (nI 0), s1, g2, g3, g4, g5, g6])), (dg, .inr (9, [.ref s0, y1, y2, y3, y4])), (s0, .inr (10, [.ref a, .ref b, .int tk])), (a, .inl (ka, 8, .inl f)), (b, .inl (kb, 64, .inl g))] s.heap.size) ((fun _ : Unit => []) u) ((fun _ : Unit => []) u) t) (va_A [(h0, .inr (0, [o0, o1, .ref t2, .ref t3, .int (nI 0), .int (nI 0), .int (nI 0), o7, o8, .ref sg, o10, o11, o12, .ref dg, o14, o15, o16, o17, o18])), (t2, .inr (1, [v2, .int (nI 0)])), (t3, .inr (1, [.ref b3, .int (nI 0)])), (b3, .inl (k3, 66, .inl fb)), (sg, .inr (2, [.int (nI 0), s1, g2, g3, g4, g5, g6])), (dg, .inr (9, [.ref s0, y1, y2, y3, y4])), (s0, .inr (10, [.ref a, .ref b, .int tk])), (a, .inl (ka, 8, .inl f)), (b, .inl (kb, 64, .inl g))] s.heap.size)) ([.ref h0, .int p1, .int p2] : List Value).toArray s 0 0 (va_A [(h0, .inr (0, [o0, o1, .ref t2, .ref t3, .int (nI 0), .int (nI 0), .int (nI 0), o7, o8, .ref sg, o10, o11, o12, .ref dg, o14, o15, o16, o17, o18])), (t2, .inr (1, [v2, .int (nI 0)])), (t3, .inr (1, [.ref b3, .int (nI 0)])), (b3, .inl (k3, 66, .inl fb)), (sg, .inr (2, [.int (nI 0), s1, g2, g3, g4, g5, g6])), (dg, .inr (9, [.ref s0, y1, y2, y3, y4])), (s0, .inr (10, [.ref a, .ref b, .int tk])), (a, .inl (ka, 8, .inl f)), (b, .inl (kb, 64, .inl g))] s.heap.size) := ⟨_, rfl⟩
  rw [← hQg]
  generalize hAe : va_A [(h0, .inr (0, [o0, o1, .ref t2, .ref t3, .int (nI 0), .int (nI 0), .int (nI 0), o7, o8, .ref sg, o10, o11, o12, .ref dg, o14, o15, o16, o17, o18])), (t2, .inr (1, [v2, .int (nI 0)])), (t3, .inr (1, [.ref b3, .int (nI 0)])), (b3, .inl (k3, 66, .inl fb)), (sg, .inr (2, [.int (nI 0), s1, g2, g3, g4, g5, g6])), (dg, .inr (9, [.ref s0, y1, y2, y3, y4])), (s0, .inr (10, [.ref a, .ref b, .int tk])), (a, .inl (ka, 8, .inl f)), (b, .inl (kb, 64, .inl g))] s.heap.size = A at hD hZ hQg
  have hA : ∀ q : Nat, s.heap.size ≤ q → A q := fun q h => by rw [← hAe]; exact Or.inr h
  have hS : va_S A s.heap s.heap [] := va_S.rf
  have hP : va_P (dC, dI) CL [(h0, .inr (0, [o0, o1, .ref t2, .ref t3, .int (nI 0), .int (nI 0), .int (nI 0), o7, o8, .ref sg, o10, o11, o12, .ref dg, o14, o15, o16, o17, o18])), (t2, .inr (1, [v2, .int (nI 0)])), (t3, .inr (1, [.ref b3, .int (nI 0)])), (b3, .inl (k3, 66, .inl fb)), (sg, .inr (2, [.int (nI 0), s1, g2, g3, g4, g5, g6])), (dg, .inr (9, [.ref s0, y1, y2, y3, y4])), (s0, .inr (10, [.ref a, .ref b, .int tk])), (a, .inl (ka, 8, .inl f)), (b, .inl (kb, 64, .inl g))] s.heap := hP
  have hl := lv_entry ([.ref h0, .int p1, .int p2]) (n := 3) (Nat.le_of_ble_eq_true rfl)
  rw [lg_entry_eq]
  generalize (lg_sl ([.ref h0, .int p1, .int p2]) ++ List.replicate (3 - (lg_sl ([.ref h0, .int p1, .int p2])).length) Slot.unset).toArray = ls at hl ⊢
  have hl : lv_has ls 3 [(0, .ref h0), (1, .int p1), (2, .int p2)] := hl
  show W p l e ({ frames := 5, cells := 0, slots := 0, locals := 126 } : Room) s m ([.ref h0, .int p1, .int p2] : List Value).toArray below meth c s.heap [] 0 0 Qg (F0 m 0 ls [])
  refine lv_aload_n hx hb d_TB_show_0 rfl (lv_at hl 0 rfl) ?_
  refine lv_iload_n hx hb d_TB_show_1 rfl (lv_at hl 1 rfl) ?_
  refine lv_iload_n hx hb d_TB_show_2 rfl (lv_at hl 2 rfl) ?_
  refine k_fini (wr := [(t2, .inr (1, [v2, .int (nI 0)])), (t3, .inr (1, [.ref b3, .int (nI 0)])), (b3, .inl (k3, 66, .inl fb)), (dg, .inr (9, [.ref s0, y1, y2, y3, y4])), (s0, .inr (10, [.ref a, .ref b, .int tk])), (a, .inl (ka, 8, .inl f)), (b, .inl (kb, 64, .inl g))]) [0, 4] [1, 2, 3, 5, 6, 7, 8] (k_runV (n := 2) (As := [.int p1, .int p2]) (rest := []) (wc := [(h0, .inr (0, [o0, o1, .ref t2, .ref t3, .int (nI 0), .int (nI 0), .int (nI 0), o7, o8, .ref sg, o10, o11, o12, .ref dg, o14, o15, o16, o17, o18])), (sg, .inr (2, [.int (nI 0), s1, g2, g3, g4, g5, g6]))]) ⟨hx, hb, hml, hown, hts⟩ (c_TB_isThere l dC dI h0 sg s1 p1 p2 g2 g3 g4 g5 g6 o0 o1 (.ref t2) (.ref t3) o7 o8 o10 o11 o12 (.ref dg) o14 o15 o16 o17 o18 _ ) (kg_V m_247 m_248 m_249 m_163 (kg_code m_246)) (by decide +kernel) rfl rfl ⟨Nat.le_of_ble_eq_true rfl, Nat.le_of_ble_eq_true rfl⟩ [0, 4] [] hP hD hK hS hA hZ hN (by rfl) (by decide) (by rfl) rfl rfl rfl rfl hl.1 rfl (Nat.le_of_ble_eq_true rfl) d_TB_show_3 ⟨(Nat.le_of_ble_eq_true rfl), (Nat.le_of_ble_eq_true rfl)⟩) hP hD hK hS hA (by rfl) (by rfl) (by decide) (by decide) (fun r_1 u9 H locs hw_2 hP hD hK hS => ?_)
  try dsimp only at hw_2
  have hP : va_P (dC, dI) CL [(t2, .inr (1, [v2, .int (nI 0)])), (t3, .inr (1, [.ref b3, .int (nI 0)])), (b3, .inl (k3, 66, .inl fb)), (dg, .inr (9, [.ref s0, y1, y2, y3, y4])), (s0, .inr (10, [.ref a, .ref b, .int tk])), (a, .inl (ka, 8, .inl f)), (b, .inl (kb, 64, .inl g)), (h0, .inr (0, [o0, o1, .ref t2, .ref t3, .int (nI 0), .int (nI 0), .int (nI 0), o7, o8, .ref sg, o10, o11, o12, .ref dg, o14, o15, o16, o17, o18])), (sg, .inr (2, [.int (nI 0), s1, g2, g3, g4, g5, g6]))] H := hP
  have hD : va_D A [(t2, .inr (1, [v2, .int (nI 0)])), (t3, .inr (1, [.ref b3, .int (nI 0)])), (b3, .inl (k3, 66, .inl fb)), (dg, .inr (9, [.ref s0, y1, y2, y3, y4])), (s0, .inr (10, [.ref a, .ref b, .int tk])), (a, .inl (ka, 8, .inl f)), (b, .inl (kb, 64, .inl g)), (h0, .inr (0, [o0, o1, .ref t2, .ref t3, .int (nI 0), .int (nI 0), .int (nI 0), o7, o8, .ref sg, o10, o11, o12, .ref dg, o14, o15, o16, o17, o18])), (sg, .inr (2, [.int (nI 0), s1, g2, g3, g4, g5, g6]))] := hD
  have hK : va_K (dC, dI) CL [(k3, .byte), (ka, .int), (kb, .int)] s := hK
  refine lv_if_ne (tgt := 11) hx hb d_TB_show_6 (by decide) (fun c6 => ?_) (fun c6 => ?_)
  · have h8 : p1 = nI 8 := k_is8 hw_2 c6
    subst h8
    refine lv_aload_n hx hb d_TB_show_11 rfl (lv_at hl 0 rfl) ?_
    refine va_get (D := (dC, dI)) (ci := 0) (v := .ref t3) (C := R_TB) (T := F_TB) (N := 19) hx hb hts i_TB hown hK hP 7 rfl rfl 3 (by decide) (hts _ m_108) (fun _ h9 => h9) rfl d_TB_show_12 ?_
    refine k_finv (wr := [(t2, .inr (1, [v2, .int (nI 0)])), (b3, .inl (k3, 66, .inl fb)), (dg, .inr (9, [.ref s0, y1, y2, y3, y4])), (s0, .inr (10, [.ref a, .ref b, .int tk])), (a, .inl (ka, 8, .inl f)), (b, .inl (kb, 64, .inl g)), (h0, .inr (0, [o0, o1, .ref t2, .ref t3, .int (nI 0), .int (nI 0), .int (nI 0), o7, o8, .ref sg, o10, o11, o12, .ref dg, o14, o15, o16, o17, o18])), (sg, .inr (2, [.int (nI 0), s1, g2, g3, g4, g5, g6]))]) [1] [0, 2, 3, 4, 5, 6, 7, 8] (k_runV (n := 0) (As := []) (rest := []) (wc := [(t3, .inr (1, [.ref b3, .int (nI 0)]))]) ⟨hx, hb, hml, hown, hts⟩ (c_Row_clear l dC dI t3 b3 (nI 0) _ ) (kg_V m_165 m_166 m_167 m_10 (kg_code m_164)) (by decide +kernel) rfl rfl ⟨Nat.le_of_ble_eq_true rfl, Nat.le_of_ble_eq_true rfl⟩ [1] [] hP hD hK hS hA hZ hN (by rfl) (by decide) (by rfl) rfl rfl rfl rfl hl.1 rfl (Nat.le_of_ble_eq_true rfl) d_TB_show_15 ⟨(Nat.le_of_ble_eq_true rfl), (Nat.le_of_ble_eq_true rfl)⟩) hP hD hK hS hA (by rfl) (by rfl) (by decide) (by decide) (fun u9 H locs hw_4 hP hD hK hS => ?_)
    try dsimp only at hw_4
    have hP : va_P (dC, dI) CL [(t2, .inr (1, [v2, .int (nI 0)])), (b3, .inl (k3, 66, .inl fb)), (dg, .inr (9, [.ref s0, y1, y2, y3, y4])), (s0, .inr (10, [.ref a, .ref b, .int tk])), (a, .inl (ka, 8, .inl f)), (b, .inl (kb, 64, .inl g)), (h0, .inr (0, [o0, o1, .ref t2, .ref t3, .int (nI 0), .int (nI 0), .int (nI 0), o7, o8, .ref sg, o10, o11, o12, .ref dg, o14, o15, o16, o17, o18])), (sg, .inr (2, [.int (nI 0), s1, g2, g3, g4, g5, g6])), (t3, .inr (1, [.ref b3, .int (nI 0)]))] H := hP
    have hD : va_D A [(t2, .inr (1, [v2, .int (nI 0)])), (b3, .inl (k3, 66, .inl fb)), (dg, .inr (9, [.ref s0, y1, y2, y3, y4])), (s0, .inr (10, [.ref a, .ref b, .int tk])), (a, .inl (ka, 8, .inl f)), (b, .inl (kb, 64, .inl g)), (h0, .inr (0, [o0, o1, .ref t2, .ref t3, .int (nI 0), .int (nI 0), .int (nI 0), o7, o8, .ref sg, o10, o11, o12, .ref dg, o14, o15, o16, o17, o18])), (sg, .inr (2, [.int (nI 0), s1, g2, g3, g4, g5, g6])), (t3, .inr (1, [.ref b3, .int (nI 0)]))] := hD
    have hK : va_K (dC, dI) CL [(k3, .byte), (ka, .int), (kb, .int)] s := hK
    refine lv_iload_n hx hb d_TB_show_18 rfl (lv_at hl 1 rfl) ?_
    refine lv_tableOut (tgt := 215) hx hb d_TB_show_19 (by decide) (by decide) ?_
    refine lv_aload_n hx hb d_TB_show_215 rfl (lv_at hl 0 rfl) ?_
    refine va_get (D := (dC, dI)) (ci := 0) (v := .ref dg) (C := R_TB) (T := F_TB) (N := 19) hx hb hts i_TB hown hK hP 6 rfl rfl 13 (by decide) (hts _ m_141) (fun _ h9 => h9) rfl d_TB_show_216 ?_
    refine lv_aload_n hx hb d_TB_show_219 rfl (lv_at hl 0 rfl) ?_
    refine va_get (D := (dC, dI)) (ci := 0) (v := .ref t3) (C := R_TB) (T := F_TB) (N := 19) hx hb hts i_TB hown hK hP 6 rfl rfl 3 (by decide) (hts _ m_108) (fun _ h9 => h9) rfl d_TB_show_220 ?_
    refine lv_aload_n hx hb d_TB_show_223 rfl (lv_at hl 0 rfl) ?_
    refine va_get (D := (dC, dI)) (ci := 0) (v := .ref t2) (C := R_TB) (T := F_TB) (N := 19) hx hb hts i_TB hown hK hP 6 rfl rfl 2 (by decide) (hts _ m_107) (fun _ h9 => h9) rfl d_TB_show_224 ?_
    refine k_finv (wr := [(h0, .inr (0, [o0, o1, .ref t2, .ref t3, .int (nI 0), .int (nI 0), .int (nI 0), o7, o8, .ref sg, o10, o11, o12, .ref dg, o14, o15, o16, o17, o18])), (sg, .inr (2, [.int (nI 0), s1, g2, g3, g4, g5, g6]))]) [2, 3, 4, 5, 8, 1, 0] [6, 7] (k_runV (n := 2) (As := [.ref t3, .ref t2]) (rest := []) (wc := [(dg, .inr (9, [.ref s0, y1, y2, y3, y4])), (s0, .inr (10, [.ref a, .ref b, .int tk])), (a, .inl (ka, 8, .inl f)), (b, .inl (kb, 64, .inl g)), (t3, .inr (1, [.ref b3, .int (nI 0)])), (b3, .inl (k3, 66, .inl fb)), (t2, .inr (1, [v2, .int (nI 0)]))]) ⟨hx, hb, hml, hown, hts⟩ (c_Dig_plain l dC dI dg s0 a b ka kb f g y1 y2 y3 y4 tk t3 b3 k3 fb t2 v2 _ ) (kg_V m_251 m_252 m_253 m_137 (kg_code m_250)) (by decide +kernel) rfl rfl ⟨Nat.le_of_ble_eq_true rfl, Nat.le_of_ble_eq_true rfl⟩ [2, 3, 4, 5, 8, 1, 0] [1, 2, 0] hP hD hK hS hA hZ hN (by rfl) (by decide) (by rfl) rfl rfl rfl rfl hl.1 rfl (Nat.le_of_ble_eq_true rfl) d_TB_show_227 ⟨(Nat.le_of_ble_eq_true rfl), (Nat.le_of_ble_eq_true rfl)⟩) hP hD hK hS hA (by rfl) (by rfl) (by decide) (by decide) (fun u9 H locs hw_9 hP hD hK hS => ?_)
    obtain ⟨f_5, g_6, h_7⟩ := u9
    try dsimp only at hw_9
    have hP : va_P (dC, dI) CL [(h0, .inr (0, [o0, o1, .ref t2, .ref t3, .int (nI 0), .int (nI 0), .int (nI 0), o7, o8, .ref sg, o10, o11, o12, .ref dg, o14, o15, o16, o17, o18])), (sg, .inr (2, [.int (nI 0), s1, g2, g3, g4, g5, g6])), (dg, .inr (9, [.ref s0, y1, y2, y3, y4])), (s0, .inr (10, [.ref a, .ref b, .int (nI 64)])), (a, .inl (ka, 8, .inl f_5)), (b, .inl (kb, 64, .inl g_6)), (t3, .inr (1, [.ref b3, .int (nI 32)])), (b3, .inl (k3, 66, .inl h_7)), (t2, .inr (1, [v2, .int (nI 0)]))] H := hP
    have hD : va_D A [(h0, .inr (0, [o0, o1, .ref t2, .ref t3, .int (nI 0), .int (nI 0), .int (nI 0), o7, o8, .ref sg, o10, o11, o12, .ref dg, o14, o15, o16, o17, o18])), (sg, .inr (2, [.int (nI 0), s1, g2, g3, g4, g5, g6])), (dg, .inr (9, [.ref s0, y1, y2, y3, y4])), (s0, .inr (10, [.ref a, .ref b, .int (nI 64)])), (a, .inl (ka, 8, .inl f_5)), (b, .inl (kb, 64, .inl g_6)), (t3, .inr (1, [.ref b3, .int (nI 32)])), (b3, .inl (k3, 66, .inl h_7)), (t2, .inr (1, [v2, .int (nI 0)]))] := hD
    have hK : va_K (dC, dI) CL [(k3, .byte), (ka, .int), (kb, .int)] s := hK
    refine lv_aload_n hx hb d_TB_show_230 rfl (lv_at hl 0 rfl) ?_
    refine va_get (D := (dC, dI)) (ci := 0) (v := .ref t3) (C := R_TB) (T := F_TB) (N := 19) hx hb hts i_TB hown hK hP 0 rfl rfl 3 (by decide) (hts _ m_108) (fun _ h9 => h9) rfl d_TB_show_231 ?_
    refine va_get (D := (dC, dI)) (ci := 1) (v := .int (nI 32)) (C := R_Row) (T := F_Row) (N := 2) hx hb hts i_Row hown hK hP 6 rfl rfl 1 (by decide) (hts _ m_158) (fun _ h9 => h9) rfl d_TB_show_234 ?_
    have hP9 := hP.sub (ws' := []) [] rfl
    have hD9 := hD.sub (ws' := []) [] (by decide) rfl
    have hK9 := hK.sub (tys' := []) [] rfl
    rw [hQg]
    exact W.iret (v := (nI 32)) hx hb hr (fun t ht hW => ⟨⟨(nI 32), (), rfl, (by decide), by rw [ht]; exact hP9, va_K.moved hW.alike hK9, hD9⟩, hS.F ht⟩) hS.2.2 d_TB_show_237
  · refine lv_iconst (v := (nI 0)) hx hb d_TB_show_9 (by decide +kernel) ?_
    have hP9 := hP.sub (ws' := []) [] rfl
    have hD9 := hD.sub (ws' := []) [] (by decide) rfl
    have hK9 := hK.sub (tys' := []) [] rfl
    rw [hQg]
    exact W.iret (v := (nI 0)) hx hb hr (fun t ht hW => ⟨⟨(nI 0), (), rfl, (k_not8 hw_2 c6), by rw [ht]; exact hP9, va_K.moved hW.alike hK9, hD9⟩, hS.F ht⟩) hS.2.2 d_TB_show_10

-- ThresholdBench.output
set_option maxHeartbeats 4000000 in
set_option maxRecDepth 100000 in
theorem c_TB_output (l : Launch) (dC : Nat → ClassId) (dI : Nat → Nat → Nat) (h0 : Nat) (t3 : Nat) (v3 : Value) (p1 : Int32) (o0 : Value) (o1 : Value) (o2 : Value) (o4 : Value) (o5 : Value) (o6 : Value) (o7 : Value) (o8 : Value) (o9 : Value) (o10 : Value) (o11 : Value) (o12 : Value) (o13 : Value) (o14 : Value) (o15 : Value) (o16 : Value) (o17 : Value) (o18 : Value) (sz : Nat)  : Met l y_TB_output (.code y_TB_output prog_1_method_14_code 2 (some .int) :: AW) ({ frames := 0, cells := 0, slots := 0, locals := 0 } : Room) (va_Pc [.ref h0, .int p1] (pw (dC, dI) CL [(h0, .inr (0, [o0, o1, o2, .ref t3, o4, o5, o6, o7, o8, o9, o10, o11, o12, o13, o14, o15, o16, o17, o18])), (t3, .inr (1, [v3, .int (nI 0)]))] [] sz)) (va_Qi (fun (r : Int32) (u : Unit) => r = -1) (fun (u : Unit) t => qw (dC, dI) CL (va_A [(h0, .inr (0, [o0, o1, o2, .ref t3, o4, o5, o6, o7, o8, o9, o10, o11, o12, o13, o14, o15, o16, o17, o18])), (t3, .inr (1, [v3, .int (nI 0)]))] sz) ((fun _ : Unit => []) u) ((fun _ : Unit => []) u) t) (va_A [(h0, .inr (0, [o0, o1, o2, .ref t3, o4, o5, o6, o7, o8, o9, o10, o11, o12, o13, o14, o15, o16, o17, o18])), (t3, .inr (1, [v3, .int (nI 0)]))] sz)) 0 0 (va_A [(h0, .inr (0, [o0, o1, o2, .ref t3, o4, o5, o6, o7, o8, o9, o10, o11, o12, o13, o14, o15, o16, o17, o18])), (t3, .inr (1, [v3, .int (nI 0)]))] sz) := by
  refine Met.ofW (cc := prog_1_method_14_code) (maxL := 2) (ret := (some .int)) (by decide) rfl ?_
  intro p e s m args below meth c s₁ B hml hv
  obtain ⟨rfl, hsz, hP, hK, hD0, hZ, hN⟩ := hv
  have hx := B.exec
  have hb := B.bytes
  have hr := B.returns
  have hts := kw (atoms_spec (ws := .code y_TB_output prog_1_method_14_code 2 (some .int) :: AW) B.pre)
  have hown : s.vm.findClass R_TB = some m.cls := findClass_of_methodNamed B.named
  have hlocks := B.notSynchronized
  subst hsz
  have hD := hD0.self (sz := s.heap.size)
  obtain ⟨Qg, hQg⟩ : ∃ q, q = MQ below (va_Qi (fun (r : Int32) (u : Unit) => r = -1) (fun (u : Unit) t => qw (dC, dI) CL (va_A [(h0, .inr (0, [o0, o1, o2, .ref t3, o4, o5, o6, o7, o8, o9, o10, o11, o12, o13, o14, o15, o16, o17, o18])), (t3, .inr (1, [v3, .int (nI 0)]))] s.heap.size) ((fun _ : Unit => []) u) ((fun _ : Unit => []) u) t) (va_A [(h0, .inr (0, [o0, o1, o2, .ref t3, o4, o5, o6, o7, o8, o9, o10, o11, o12, o13, o14, o15, o16, o17, o18])), (t3, .inr (1, [v3, .int (nI 0)]))] s.heap.size)) ([.ref h0, .int p1] : List Value).toArray s 0 0 (va_A [(h0, .inr (0, [o0, o1, o2, .ref t3, o4, o5, o6, o7, o8, o9, o10, o11, o12, o13, o14, o15, o16, o17, o18])), (t3, .inr (1, [v3, .int (nI 0)]))] s.heap.size) := ⟨_, rfl⟩
  rw [← hQg]
  generalize hAe : va_A [(h0, .inr (0, [o0, o1, o2, .ref t3, o4, o5, o6, o7, o8, o9, o10, o11, o12, o13, o14, o15, o16, o17, o18])), (t3, .inr (1, [v3, .int (nI 0)]))] s.heap.size = A at hD hZ hQg
  have hA : ∀ q : Nat, s.heap.size ≤ q → A q := fun q h => by rw [← hAe]; exact Or.inr h
  have hS : va_S A s.heap s.heap [] := va_S.rf
  have hP : va_P (dC, dI) CL [(h0, .inr (0, [o0, o1, o2, .ref t3, o4, o5, o6, o7, o8, o9, o10, o11, o12, o13, o14, o15, o16, o17, o18])), (t3, .inr (1, [v3, .int (nI 0)]))] s.heap := hP
  have hl := lv_entry ([.ref h0, .int p1]) (n := 2) (Nat.le_of_ble_eq_true rfl)
  rw [lg_entry_eq]
  generalize (lg_sl ([.ref h0, .int p1]) ++ List.replicate (2 - (lg_sl ([.ref h0, .int p1])).length) Slot.unset).toArray = ls at hl ⊢
  have hl : lv_has ls 2 [(0, .ref h0), (1, .int p1)] := hl
  show W p l e ({ frames := 0, cells := 0, slots := 0, locals := 0 } : Room) s m ([.ref h0, .int p1] : List Value).toArray below meth c s.heap [] 0 0 Qg (F0 m 0 ls [])
  refine lv_iload_n hx hb d_TB_output_0 rfl (lv_at hl 1 rfl) ?_
  refine lv_if_lt (tgt := 31) hx hb d_TB_output_1 (by decide) (fun c1 => ?_) (fun c1 => ?_)
  · refine lv_iconst (v := (-1)) hx hb d_TB_output_31 (by decide +kernel) ?_
    have hP9 := hP.sub (ws' := []) [] rfl
    have hD9 := hD.sub (ws' := []) [] (by decide) rfl
    have hK9 := hK.sub (tys' := []) [] rfl
    rw [hQg]
    exact W.iret (v := (-1)) hx hb hr (fun t ht hW => ⟨⟨(-1), (), rfl, rfl, by rw [ht]; exact hP9, va_K.moved hW.alike hK9, hD9⟩, hS.F ht⟩) hS.2.2 d_TB_output_32
  · refine lv_iload_n hx hb d_TB_output_4 rfl (lv_at hl 1 rfl) ?_
    refine lv_aload_n hx hb d_TB_output_5 rfl (lv_at hl 0 rfl) ?_
    refine va_get (D := (dC, dI)) (ci := 0) (v := .ref t3) (C := R_TB) (T := F_TB) (N := 19) hx hb hts i_TB hown hK hP 0 rfl rfl 3 (by decide) (hts _ m_108) (fun _ h9 => h9) rfl d_TB_output_6 ?_
    refine va_get (D := (dC, dI)) (ci := 1) (v := .int (nI 0)) (C := R_Row) (T := F_Row) (N := 2) hx hb hts i_Row hown hK hP 1 rfl rfl 1 (by decide) (hts _ m_158) (fun _ h9 => h9) rfl d_TB_output_9 ?_
    refine lv_icmp_ge (tgt := 31) hx hb d_TB_output_12 (by decide) (fun c12 => ?_) (fun c12 => absurd (k_ge0 c1) c12)
    refine lv_iconst (v := (-1)) hx hb d_TB_output_31 (by decide +kernel) ?_
    have hP9 := hP.sub (ws' := []) [] rfl
    have hD9 := hD.sub (ws' := []) [] (by decide) rfl
    have hK9 := hK.sub (tys' := []) [] rfl
    rw [hQg]
    exact W.iret (v := (-1)) hx hb hr (fun t ht hW => ⟨⟨(-1), (), rfl, rfl, by rw [ht]; exact hP9, va_K.moved hW.alike hK9, hD9⟩, hS.F ht⟩) hS.2.2 d_TB_output_32

-- ThresholdBench.about
set_option maxHeartbeats 4000000 in
set_option maxRecDepth 100000 in
theorem c_TB_about (l : Launch) (dC : Nat → ClassId) (dI : Nat → Nat → Nat) (h0 : Nat) (t0 : Nat) (v0 : Value) (t2 : Nat) (v2 : Value) (t3 : Nat) (v3 : Value) (sg : Nat) (p1 : Int32) (g2 : Value) (g3 : Value) (g4 : Value) (g5 : Value) (g6 : Value) (o1 : Value) (o7 : Value) (o8 : Value) (o10 : Value) (o11 : Value) (o12 : Value) (o13 : Value) (o14 : Value) (o15 : Value) (o16 : Value) (o17 : Value) (o18 : Value) (sz : Nat)  : Met l y_TB_about (.code y_TB_about prog_1_method_15_code 2 (some .int) :: AW) ({ frames := 0, cells := 0, slots := 0, locals := 0 } : Room) (va_Pc [.ref h0, .int p1] (pw (dC, dI) CL [(h0, .inr (0, [.ref t0, o1, .ref t2, .ref t3, .int (nI 0), .int (nI 0), .int (nI 0), o7, o8, .ref sg, o10, o11, o12, o13, o14, o15, o16, o17, o18])), (t0, .inr (1, [v0, .int (nI 0)])), (t2, .inr (1, [v2, .int (nI 0)])), (t3, .inr (1, [v3, .int (nI 0)])), (sg, .inr (2, [.int (nI 0), .int (nI 0), g2, g3, g4, g5, g6]))] [] sz)) (va_Qi (fun (r : Int32) (u : Unit) => r = nI 0) (fun (u : Unit) t => qw (dC, dI) CL (va_A [(h0, .inr (0, [.ref t0, o1, .ref t2, .ref t3, .int (nI 0), .int (nI 0), .int (nI 0), o7, o8, .ref sg, o10, o11, o12, o13, o14, o15, o16, o17, o18])), (t0, .inr (1, [v0, .int (nI 0)])), (t2, .inr (1, [v2, .int (nI 0)])), (t3, .inr (1, [v3, .int (nI 0)])), (sg, .inr (2, [.int (nI 0), .int (nI 0), g2, g3, g4, g5, g6]))] sz) ((fun _ : Unit => []) u) ((fun _ : Unit => []) u) t) (va_A [(h0, .inr (0, [.ref t0, o1, .ref t2, .ref t3, .int (nI 0), .int (nI 0), .int (nI 0), o7, o8, .ref sg, o10, o11, o12, o13, o14, o15, o16, o17, o18])), (t0, .inr (1, [v0, .int (nI 0)])), (t2, .inr (1, [v2, .int (nI 0)])), (t3, .inr (1, [v3, .int (nI 0)])), (sg, .inr (2, [.int (nI 0), .int (nI 0), g2, g3, g4, g5, g6]))] sz)) 0 0 (va_A [(h0, .inr (0, [.ref t0, o1, .ref t2, .ref t3, .int (nI 0), .int (nI 0), .int (nI 0), o7, o8, .ref sg, o10, o11, o12, o13, o14, o15, o16, o17, o18])), (t0, .inr (1, [v0, .int (nI 0)])), (t2, .inr (1, [v2, .int (nI 0)])), (t3, .inr (1, [v3, .int (nI 0)])), (sg, .inr (2, [.int (nI 0), .int (nI 0), g2, g3, g4, g5, g6]))] sz) := by
  refine Met.ofW (cc := prog_1_method_15_code) (maxL := 2) (ret := (some .int)) (by decide) rfl ?_
  intro p e s m args below meth c s₁ B hml hv
  obtain ⟨rfl, hsz, hP, hK, hD0, hZ, hN⟩ := hv
  have hx := B.exec
  have hb := B.bytes
  have hr := B.returns
  have hts := kw (atoms_spec (ws := .code y_TB_about prog_1_method_15_code 2 (some .int) :: AW) B.pre)
  have hown : s.vm.findClass R_TB = some m.cls := findClass_of_methodNamed B.named
  have hlocks := B.notSynchronized
  subst hsz
  have hD := hD0.self (sz := s.heap.size)
  obtain ⟨Qg, hQg⟩ : ∃ q, q = MQ below (va_Qi (fun (r : Int32) (u : Unit) => r = nI 0) (fun (u : Unit) t => qw (dC, dI) CL (va_A [(h0, .inr (0, [.ref t0, o1, .ref t2, .ref t3, .int (nI 0), .int (nI 0), .int (nI 0), o7, o8, .ref sg, o10, o11, o12, o13, o14, o15, o16, o17, o18])), (t0, .inr (1, [v0, .int (nI 0)])), (t2, .inr (1, [v2, .int (nI 0)])), (t3, .inr (1, [v3, .int (nI 0)])), (sg, .inr (2, [.int (nI 0), .int (nI 0), g2, g3, g4, g5, g6]))] s.heap.size) ((fun _ : Unit => []) u) ((fun _ : Unit => []) u) t) (va_A [(h0, .inr (0, [.ref t0, o1, .ref t2, .ref t3, .int (nI 0), .int (nI 0), .int (nI 0), o7, o8, .ref sg, o10, o11, o12, o13, o14, o15, o16, o17, o18])), (t0, .inr (1, [v0, .int (nI 0)])), (t2, .inr (1, [v2, .int (nI 0)])), (t3, .inr (1, [v3, .int (nI 0)])), (sg, .inr (2, [.int (nI 0), .int (nI 0), g2, g3, g4, g5, g6]))] s.heap.size)) ([.ref h0, .int p1] : List Value).toArray s 0 0 (va_A [(h0, .inr (0, [.ref t0, o1, .ref t2, .ref t3, .int (nI 0), .int (nI 0), .int (nI 0), o7, o8, .ref sg, o10, o11, o12, o13, o14, o15, o16, o17, o18])), (t0, .inr (1, [v0, .int (nI 0)])), (t2, .inr (1, [v2, .int (nI 0)])), (t3, .inr (1, [v3, .int (nI 0)])), (sg, .inr (2, [.int (nI 0), .int (nI 0), g2, g3, g4, g5, g6]))] s.heap.size) := ⟨_, rfl⟩
  rw [← hQg]
  generalize hAe : va_A [(h0, .inr (0, [.ref t0, o1, .ref t2, .ref t3, .int (nI 0), .int (nI 0), .int (nI 0), o7, o8, .ref sg, o10, o11, o12, o13, o14, o15, o16, o17, o18])), (t0, .inr (1, [v0, .int (nI 0)])), (t2, .inr (1, [v2, .int (nI 0)])), (t3, .inr (1, [v3, .int (nI 0)])), (sg, .inr (2, [.int (nI 0), .int (nI 0), g2, g3, g4, g5, g6]))] s.heap.size = A at hD hZ hQg
  have hA : ∀ q : Nat, s.heap.size ≤ q → A q := fun q h => by rw [← hAe]; exact Or.inr h
  have hS : va_S A s.heap s.heap [] := va_S.rf
  have hP : va_P (dC, dI) CL [(h0, .inr (0, [.ref t0, o1, .ref t2, .ref t3, .int (nI 0), .int (nI 0), .int (nI 0), o7, o8, .ref sg, o10, o11, o12, o13, o14, o15, o16, o17, o18])), (t0, .inr (1, [v0, .int (nI 0)])), (t2, .inr (1, [v2, .int (nI 0)])), (t3, .inr (1, [v3, .int (nI 0)])), (sg, .inr (2, [.int (nI 0), .int (nI 0), g2, g3, g4, g5, g6]))] s.heap := hP
  have hl := lv_entry ([.ref h0, .int p1]) (n := 2) (Nat.le_of_ble_eq_true rfl)
  rw [lg_entry_eq]
  generalize (lg_sl ([.ref h0, .int p1]) ++ List.replicate (2 - (lg_sl ([.ref h0, .int p1])).length) Slot.unset).toArray = ls at hl ⊢
  have hl : lv_has ls 2 [(0, .ref h0), (1, .int p1)] := hl
  show W p l e ({ frames := 0, cells := 0, slots := 0, locals := 0 } : Room) s m ([.ref h0, .int p1] : List Value).toArray below meth c s.heap [] 0 0 Qg (F0 m 0 ls [])
  refine lv_iload_n hx hb d_TB_about_0 rfl (lv_at hl 1 rfl) ?_
  rcases k_sw p1 7 (by decide) with cd1 | ⟨j1, hjj1, ejj1⟩
  · refine lv_tableOut (tgt := 103) hx hb d_TB_about_1 cd1 (by decide) ?_
    refine lv_iconst (v := (nI 0)) hx hb d_TB_about_103 (by decide +kernel) ?_
    have hP9 := hP.sub (ws' := []) [] rfl
    have hD9 := hD.sub (ws' := []) [] (by decide) rfl
    have hK9 := hK.sub (tys' := []) [] rfl
    rw [hQg]
    exact W.iret (v := (nI 0)) hx hb hr (fun t ht hW => ⟨⟨(nI 0), (), rfl, rfl, by rw [ht]; exact hP9, va_K.moved hW.alike hK9, hD9⟩, hS.F ht⟩) hS.2.2 d_TB_about_104
  · rcases (show j1 = 0 ∨ j1 = 1 ∨ j1 = 2 ∨ j1 = 3 ∨ j1 = 4 ∨ j1 = 5 ∨ j1 = 6 ∨ j1 = 7 by omega) with rfl | rfl | rfl | rfl | rfl | rfl | rfl | rfl
    · refine ki (v := nI 0) ejj1 ?_
      refine lv_tableIn (tgt := 48) hx hb d_TB_about_1 (by decide) (by decide) (off := 47) (by decide) (by decide) ?_
      refine lv_aload_n hx hb d_TB_about_48 rfl (lv_at hl 0 rfl) ?_
      refine va_get (D := (dC, dI)) (ci := 0) (v := .int (nI 0)) (C := R_TB) (T := F_TB) (N := 19) hx hb hts i_TB hown hK hP 0 rfl rfl 4 (by decide) (hts _ m_240) (fun _ h9 => h9) rfl d_TB_about_49 ?_
      have hP9 := hP.sub (ws' := []) [] rfl
      have hD9 := hD.sub (ws' := []) [] (by decide) rfl
      have hK9 := hK.sub (tys' := []) [] rfl
      rw [hQg]
      exact W.iret (v := (nI 0)) hx hb hr (fun t ht hW => ⟨⟨(nI 0), (), rfl, rfl, by rw [ht]; exact hP9, va_K.moved hW.alike hK9, hD9⟩, hS.F ht⟩) hS.2.2 d_TB_about_52
    · refine ki (v := nI 1) ejj1 ?_
      refine lv_tableIn (tgt := 53) hx hb d_TB_about_1 (by decide) (by decide) (off := 52) (by decide) (by decide) ?_
      refine lv_aload_n hx hb d_TB_about_53 rfl (lv_at hl 0 rfl) ?_
      refine va_get (D := (dC, dI)) (ci := 0) (v := .int (nI 0)) (C := R_TB) (T := F_TB) (N := 19) hx hb hts i_TB hown hK hP 0 rfl rfl 5 (by decide) (hts _ m_182) (fun _ h9 => h9) rfl d_TB_about_54 ?_
      have hP9 := hP.sub (ws' := []) [] rfl
      have hD9 := hD.sub (ws' := []) [] (by decide) rfl
      have hK9 := hK.sub (tys' := []) [] rfl
      rw [hQg]
      exact W.iret (v := (nI 0)) hx hb hr (fun t ht hW => ⟨⟨(nI 0), (), rfl, rfl, by rw [ht]; exact hP9, va_K.moved hW.alike hK9, hD9⟩, hS.F ht⟩) hS.2.2 d_TB_about_57
    · refine ki (v := nI 2) ejj1 ?_
      refine lv_tableIn (tgt := 58) hx hb d_TB_about_1 (by decide) (by decide) (off := 57) (by decide) (by decide) ?_
      refine lv_aload_n hx hb d_TB_about_58 rfl (lv_at hl 0 rfl) ?_
      refine va_get (D := (dC, dI)) (ci := 0) (v := .int (nI 0)) (C := R_TB) (T := F_TB) (N := 19) hx hb hts i_TB hown hK hP 0 rfl rfl 6 (by decide) (hts _ m_241) (fun _ h9 => h9) rfl d_TB_about_59 ?_
      have hP9 := hP.sub (ws' := []) [] rfl
      have hD9 := hD.sub (ws' := []) [] (by decide) rfl
      have hK9 := hK.sub (tys' := []) [] rfl
      rw [hQg]
      exact W.iret (v := (nI 0)) hx hb hr (fun t ht hW => ⟨⟨(nI 0), (), rfl, rfl, by rw [ht]; exact hP9, va_K.moved hW.alike hK9, hD9⟩, hS.F ht⟩) hS.2.2 d_TB_about_62
    · refine ki (v := nI 3) ejj1 ?_
      refine lv_tableIn (tgt := 63) hx hb d_TB_about_1 (by decide) (by decide) (off := 62) (by decide) (by decide) ?_
      refine lv_aload_n hx hb d_TB_about_63 rfl (lv_at hl 0 rfl) ?_
      refine va_get (D := (dC, dI)) (ci := 0) (v := .ref sg) (C := R_TB) (T := F_TB) (N := 19) hx hb hts i_TB hown hK hP 0 rfl rfl 9 (by decide) (hts _ m_119) (fun _ h9 => h9) rfl d_TB_about_64 ?_
      refine va_get (D := (dC, dI)) (ci := 2) (v := .int (nI 0)) (C := R_Sig) (T := F_Sig) (N := 7) hx hb hts i_Sig hown hK hP 4 rfl rfl 0 (by decide) (hts _ m_168) (fun _ h9 => h9) rfl d_TB_about_67 ?_
      have hP9 := hP.sub (ws' := []) [] rfl
      have hD9 := hD.sub (ws' := []) [] (by decide) rfl
      have hK9 := hK.sub (tys' := []) [] rfl
      rw [hQg]
      exact W.iret (v := (nI 0)) hx hb hr (fun t ht hW => ⟨⟨(nI 0), (), rfl, rfl, by rw [ht]; exact hP9, va_K.moved hW.alike hK9, hD9⟩, hS.F ht⟩) hS.2.2 d_TB_about_70
    · refine ki (v := nI 4) ejj1 ?_
      refine lv_tableIn (tgt := 71) hx hb d_TB_about_1 (by decide) (by decide) (off := 70) (by decide) (by decide) ?_
      refine lv_aload_n hx hb d_TB_about_71 rfl (lv_at hl 0 rfl) ?_
      refine va_get (D := (dC, dI)) (ci := 0) (v := .ref sg) (C := R_TB) (T := F_TB) (N := 19) hx hb hts i_TB hown hK hP 0 rfl rfl 9 (by decide) (hts _ m_119) (fun _ h9 => h9) rfl d_TB_about_72 ?_
      refine va_get (D := (dC, dI)) (ci := 2) (v := .int (nI 0)) (C := R_Sig) (T := F_Sig) (N := 7) hx hb hts i_Sig hown hK hP 4 rfl rfl 1 (by decide) (hts _ m_169) (fun _ h9 => h9) rfl d_TB_about_75 ?_
      have hP9 := hP.sub (ws' := []) [] rfl
      have hD9 := hD.sub (ws' := []) [] (by decide) rfl
      have hK9 := hK.sub (tys' := []) [] rfl
      rw [hQg]
      exact W.iret (v := (nI 0)) hx hb hr (fun t ht hW => ⟨⟨(nI 0), (), rfl, rfl, by rw [ht]; exact hP9, va_K.moved hW.alike hK9, hD9⟩, hS.F ht⟩) hS.2.2 d_TB_about_78
    · refine ki (v := nI 5) ejj1 ?_
      refine lv_tableIn (tgt := 79) hx hb d_TB_about_1 (by decide) (by decide) (off := 78) (by decide) (by decide) ?_
      refine lv_aload_n hx hb d_TB_about_79 rfl (lv_at hl 0 rfl) ?_
      refine va_get (D := (dC, dI)) (ci := 0) (v := .ref t0) (C := R_TB) (T := F_TB) (N := 19) hx hb hts i_TB hown hK hP 0 rfl rfl 0 (by decide) (hts _ m_105) (fun _ h9 => h9) rfl d_TB_about_80 ?_
      refine va_get (D := (dC, dI)) (ci := 1) (v := .int (nI 0)) (C := R_Row) (T := F_Row) (N := 2) hx hb hts i_Row hown hK hP 1 rfl rfl 1 (by decide) (hts _ m_158) (fun _ h9 => h9) rfl d_TB_about_83 ?_
      have hP9 := hP.sub (ws' := []) [] rfl
      have hD9 := hD.sub (ws' := []) [] (by decide) rfl
      have hK9 := hK.sub (tys' := []) [] rfl
      rw [hQg]
      exact W.iret (v := (nI 0)) hx hb hr (fun t ht hW => ⟨⟨(nI 0), (), rfl, rfl, by rw [ht]; exact hP9, va_K.moved hW.alike hK9, hD9⟩, hS.F ht⟩) hS.2.2 d_TB_about_86
    · refine ki (v := nI 6) ejj1 ?_
      refine lv_tableIn (tgt := 87) hx hb d_TB_about_1 (by decide) (by decide) (off := 86) (by decide) (by decide) ?_
      refine lv_aload_n hx hb d_TB_about_87 rfl (lv_at hl 0 rfl) ?_
      refine va_get (D := (dC, dI)) (ci := 0) (v := .ref t2) (C := R_TB) (T := F_TB) (N := 19) hx hb hts i_TB hown hK hP 0 rfl rfl 2 (by decide) (hts _ m_107) (fun _ h9 => h9) rfl d_TB_about_88 ?_
      refine va_get (D := (dC, dI)) (ci := 1) (v := .int (nI 0)) (C := R_Row) (T := F_Row) (N := 2) hx hb hts i_Row hown hK hP 2 rfl rfl 1 (by decide) (hts _ m_158) (fun _ h9 => h9) rfl d_TB_about_91 ?_
      have hP9 := hP.sub (ws' := []) [] rfl
      have hD9 := hD.sub (ws' := []) [] (by decide) rfl
      have hK9 := hK.sub (tys' := []) [] rfl
      rw [hQg]
      exact W.iret (v := (nI 0)) hx hb hr (fun t ht hW => ⟨⟨(nI 0), (), rfl, rfl, by rw [ht]; exact hP9, va_K.moved hW.alike hK9, hD9⟩, hS.F ht⟩) hS.2.2 d_TB_about_94
    · refine ki (v := nI 7) ejj1 ?_
      refine lv_tableIn (tgt := 95) hx hb d_TB_about_1 (by decide) (by decide) (off := 94) (by decide) (by decide) ?_
      refine lv_aload_n hx hb d_TB_about_95 rfl (lv_at hl 0 rfl) ?_
      refine va_get (D := (dC, dI)) (ci := 0) (v := .ref t3) (C := R_TB) (T := F_TB) (N := 19) hx hb hts i_TB hown hK hP 0 rfl rfl 3 (by decide) (hts _ m_108) (fun _ h9 => h9) rfl d_TB_about_96 ?_
      refine va_get (D := (dC, dI)) (ci := 1) (v := .int (nI 0)) (C := R_Row) (T := F_Row) (N := 2) hx hb hts i_Row hown hK hP 3 rfl rfl 1 (by decide) (hts _ m_158) (fun _ h9 => h9) rfl d_TB_about_99 ?_
      have hP9 := hP.sub (ws' := []) [] rfl
      have hD9 := hD.sub (ws' := []) [] (by decide) rfl
      have hK9 := hK.sub (tys' := []) [] rfl
      rw [hQg]
      exact W.iret (v := (nI 0)) hx hb hr (fun t ht hW => ⟨⟨(nI 0), (), rfl, rfl, by rw [ht]; exact hP9, va_K.moved hW.alike hK9, hD9⟩, hS.F ht⟩) hS.2.2 d_TB_about_102
