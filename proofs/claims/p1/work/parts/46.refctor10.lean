set_option maxHeartbeats 1000000 in
set_option maxRecDepth 100000 in
theorem c_Mo_init (l : Launch) (dC : Nat → ClassId) (dI : Nat → Nat → Nat) (h0 : Nat) (sz : Nat)  : Met l y_Mo_init (.code y_Mo_init prog_14_method_1_code 7 (none) :: AW) ({ frames := 2, cells := 23, slots := 15712, locals := 49 } : Room) (va_Pc [.ref h0] (pw (dC, dI) CL [(h0, .inr (11, [.null, .null, .null, .null, .null, .null, .null, .null, .int (nI 0), .null, .null, .null, .null, .int (nI 0), .int (nI 0), .int (nI 0), .int (nI 0), .int (nI 0), .int (nI 0), .null, .null, .null, .null, .null, .null, .null, .null, .null, .null, .null, .int (nI 0), .int (nI 0), .int (nI 0), .int (nI 0)]))] [] sz)) (va_Qv (fun u : Nat × ClassId × (Nat → Int32) × Value × Value × Value × Value × Value × Value × Value × Value × Value × Value × Value × Value × Nat × ClassId × (Nat → Int32) × Value × Nat × ClassId × (Nat → Int32) × Value × Nat × ClassId × (Nat → Int32) × Nat × ClassId × (Nat → Int32) × Value × Value × Nat × ClassId × (Nat → Int32) × Nat × ClassId × (Nat → Int32) => True) (fun (u : Nat × ClassId × (Nat → Int32) × Value × Value × Value × Value × Value × Value × Value × Value × Value × Value × Value × Value × Nat × ClassId × (Nat → Int32) × Value × Nat × ClassId × (Nat → Int32) × Value × Nat × ClassId × (Nat → Int32) × Nat × ClassId × (Nat → Int32) × Value × Value × Nat × ClassId × (Nat → Int32) × Nat × ClassId × (Nat → Int32)) t => qw (dC, dI) CL (va_A [(h0, .inr (11, [.null, .null, .null, .null, .null, .null, .null, .null, .int (nI 0), .null, .null, .null, .null, .int (nI 0), .int (nI 0), .int (nI 0), .int (nI 0), .int (nI 0), .int (nI 0), .null, .null, .null, .null, .null, .null, .null, .null, .null, .null, .null, .int (nI 0), .int (nI 0), .int (nI 0), .int (nI 0)]))] sz) ((fun u : Nat × ClassId × (Nat → Int32) × Value × Value × Value × Value × Value × Value × Value × Value × Value × Value × Value × Value × Nat × ClassId × (Nat → Int32) × Value × Nat × ClassId × (Nat → Int32) × Value × Nat × ClassId × (Nat → Int32) × Nat × ClassId × (Nat → Int32) × Value × Value × Nat × ClassId × (Nat → Int32) × Nat × ClassId × (Nat → Int32) => [(h0, .inr (11, [.ref u.1, u.2.2.2.1, u.2.2.2.2.1, u.2.2.2.2.2.1, u.2.2.2.2.2.2.1, u.2.2.2.2.2.2.2.1, u.2.2.2.2.2.2.2.2.1, u.2.2.2.2.2.2.2.2.2.1, .int (nI 0), u.2.2.2.2.2.2.2.2.2.2.1, u.2.2.2.2.2.2.2.2.2.2.2.1, u.2.2.2.2.2.2.2.2.2.2.2.2.1, u.2.2.2.2.2.2.2.2.2.2.2.2.2.1, .int (nI 0), .int (nI 0), .int (nI 0), .int (nI 0), .int (nI 0), .int (nI 0), u.2.2.2.2.2.2.2.2.2.2.2.2.2.2.1, .ref u.2.2.2.2.2.2.2.2.2.2.2.2.2.2.2.1, u.2.2.2.2.2.2.2.2.2.2.2.2.2.2.2.2.2.2.1, .ref u.2.2.2.2.2.2.2.2.2.2.2.2.2.2.2.2.2.2.2.1, u.2.2.2.2.2.2.2.2.2.2.2.2.2.2.2.2.2.2.2.2.2.2.1, .ref u.2.2.2.2.2.2.2.2.2.2.2.2.2.2.2.2.2.2.2.2.2.2.2.1, .ref u.2.2.2.2.2.2.2.2.2.2.2.2.2.2.2.2.2.2.2.2.2.2.2.2.2.2.1, u.2.2.2.2.2.2.2.2.2.2.2.2.2.2.2.2.2.2.2.2.2.2.2.2.2.2.2.2.2.1, u.2.2.2.2.2.2.2.2.2.2.2.2.2.2.2.2.2.2.2.2.2.2.2.2.2.2.2.2.2.2.1, .ref u.2.2.2.2.2.2.2.2.2.2.2.2.2.2.2.2.2.2.2.2.2.2.2.2.2.2.2.2.2.2.2.1, .ref u.2.2.2.2.2.2.2.2.2.2.2.2.2.2.2.2.2.2.2.2.2.2.2.2.2.2.2.2.2.2.2.2.2.2.1, .int (nI 0), .int (nI 0), .int (nI 0), .int (nI 0)])), (u.1, .inl (u.2.1, 64, .inl u.2.2.1)), (u.2.2.2.2.2.2.2.2.2.2.2.2.2.2.2.1, .inl (u.2.2.2.2.2.2.2.2.2.2.2.2.2.2.2.2.1, 300, .inl u.2.2.2.2.2.2.2.2.2.2.2.2.2.2.2.2.2.1)), (u.2.2.2.2.2.2.2.2.2.2.2.2.2.2.2.2.2.2.2.1, .inl (u.2.2.2.2.2.2.2.2.2.2.2.2.2.2.2.2.2.2.2.2.1, 70, .inl u.2.2.2.2.2.2.2.2.2.2.2.2.2.2.2.2.2.2.2.2.2.1)), (u.2.2.2.2.2.2.2.2.2.2.2.2.2.2.2.2.2.2.2.2.2.2.2.1, .inl (u.2.2.2.2.2.2.2.2.2.2.2.2.2.2.2.2.2.2.2.2.2.2.2.2.1, 1200, .inl u.2.2.2.2.2.2.2.2.2.2.2.2.2.2.2.2.2.2.2.2.2.2.2.2.2.1)), (u.2.2.2.2.2.2.2.2.2.2.2.2.2.2.2.2.2.2.2.2.2.2.2.2.2.2.1, .inl (u.2.2.2.2.2.2.2.2.2.2.2.2.2.2.2.2.2.2.2.2.2.2.2.2.2.2.2.1, 32, .inl u.2.2.2.2.2.2.2.2.2.2.2.2.2.2.2.2.2.2.2.2.2.2.2.2.2.2.2.2.1)), (u.2.2.2.2.2.2.2.2.2.2.2.2.2.2.2.2.2.2.2.2.2.2.2.2.2.2.2.2.2.2.2.1, .inl (u.2.2.2.2.2.2.2.2.2.2.2.2.2.2.2.2.2.2.2.2.2.2.2.2.2.2.2.2.2.2.2.2.1, 8, .inl u.2.2.2.2.2.2.2.2.2.2.2.2.2.2.2.2.2.2.2.2.2.2.2.2.2.2.2.2.2.2.2.2.2.1)), (u.2.2.2.2.2.2.2.2.2.2.2.2.2.2.2.2.2.2.2.2.2.2.2.2.2.2.2.2.2.2.2.2.2.2.1, .inl (u.2.2.2.2.2.2.2.2.2.2.2.2.2.2.2.2.2.2.2.2.2.2.2.2.2.2.2.2.2.2.2.2.2.2.2.1, 64, .inl u.2.2.2.2.2.2.2.2.2.2.2.2.2.2.2.2.2.2.2.2.2.2.2.2.2.2.2.2.2.2.2.2.2.2.2.2))]) u) ((fun u : Nat × ClassId × (Nat → Int32) × Value × Value × Value × Value × Value × Value × Value × Value × Value × Value × Value × Value × Nat × ClassId × (Nat → Int32) × Value × Nat × ClassId × (Nat → Int32) × Value × Nat × ClassId × (Nat → Int32) × Nat × ClassId × (Nat → Int32) × Value × Value × Nat × ClassId × (Nat → Int32) × Nat × ClassId × (Nat → Int32) => [(u.2.1, .int), (u.2.2.2.2.2.2.2.2.2.2.2.2.2.2.2.2.1, .byte), (u.2.2.2.2.2.2.2.2.2.2.2.2.2.2.2.2.2.2.2.2.1, .byte), (u.2.2.2.2.2.2.2.2.2.2.2.2.2.2.2.2.2.2.2.2.2.2.2.2.1, .byte), (u.2.2.2.2.2.2.2.2.2.2.2.2.2.2.2.2.2.2.2.2.2.2.2.2.2.2.2.1, .byte), (u.2.2.2.2.2.2.2.2.2.2.2.2.2.2.2.2.2.2.2.2.2.2.2.2.2.2.2.2.2.2.2.2.1, .int), (u.2.2.2.2.2.2.2.2.2.2.2.2.2.2.2.2.2.2.2.2.2.2.2.2.2.2.2.2.2.2.2.2.2.2.2.1, .int)]) u) t) (va_A [(h0, .inr (11, [.null, .null, .null, .null, .null, .null, .null, .null, .int (nI 0), .null, .null, .null, .null, .int (nI 0), .int (nI 0), .int (nI 0), .int (nI 0), .int (nI 0), .int (nI 0), .null, .null, .null, .null, .null, .null, .null, .null, .null, .null, .null, .int (nI 0), .int (nI 0), .int (nI 0), .int (nI 0)]))] sz)) 23 15712 (va_A [(h0, .inr (11, [.null, .null, .null, .null, .null, .null, .null, .null, .int (nI 0), .null, .null, .null, .null, .int (nI 0), .int (nI 0), .int (nI 0), .int (nI 0), .int (nI 0), .int (nI 0), .null, .null, .null, .null, .null, .null, .null, .null, .null, .null, .null, .int (nI 0), .int (nI 0), .int (nI 0), .int (nI 0)]))] sz) := by
  refine Met.ofW (cc := prog_14_method_1_code) (maxL := 7) (ret := none) (by decide) rfl ?_
  intro p e s m args below meth c s₁ B hml hv
  obtain ⟨rfl, hsz, hP, hK, hD0, hZ, hN⟩ := hv
  have hx := B.exec
  have hb := B.bytes
  have hr := B.returns
  have hts := kw (atoms_spec (ws := .code y_Mo_init prog_14_method_1_code 7 (none) :: AW) B.pre)
  have hown : s.vm.findClass R_Mo = some m.cls := findClass_of_methodNamed B.named
  have hlocks := B.notSynchronized
  have hin : meth.name = "<init>" := (name_of_methodNamed B.named B.method).1
  subst hsz
  have hD := hD0.self (sz := s.heap.size)
  obtain ⟨Qg, hQg⟩ : ∃ q, q = MQ below (va_Qv (fun u : Nat × ClassId × (Nat → Int32) × Value × Value × Value × Value × Value × Value × Value × Value × Value × Value × Value × Value × Nat × ClassId × (Nat → Int32) × Value × Nat × ClassId × (Nat → Int32) × Value × Nat × ClassId × (Nat → Int32) × Nat × ClassId × (Nat → Int32) × Value × Value × Nat × ClassId × (Nat → Int32) × Nat × ClassId × (Nat → Int32) => True) (fun (u : Nat × ClassId × (Nat → Int32) × Value × Value × Value × Value × Value × Value × Value × Value × Value × Value × Value × Value × Nat × ClassId × (Nat → Int32) × Value × Nat × ClassId × (Nat → Int32) × Value × Nat × ClassId × (Nat → Int32) × Nat × ClassId × (Nat → Int32) × Value × Value × Nat × ClassId × (Nat → Int32) × Nat × ClassId × (Nat → Int32)) t => qw (dC, dI) CL (va_A [(h0, .inr (11, [.null, .null, .null, .null, .null, .null, .null, .null, .int (nI 0), .null, .null, .null, .null, .int (nI 0), .int (nI 0), .int (nI 0), .int (nI 0), .int (nI 0), .int (nI 0), .null, .null, .null, .null, .null, .null, .null, .null, .null, .null, .null, .int (nI 0), .int (nI 0), .int (nI 0), .int (nI 0)]))] s.heap.size) ((fun u : Nat × ClassId × (Nat → Int32) × Value × Value × Value × Value × Value × Value × Value × Value × Value × Value × Value × Value × Nat × ClassId × (Nat → Int32) × Value × Nat × ClassId × (Nat → Int32) × Value × Nat × ClassId × (Nat → Int32) × Nat × ClassId × (Nat → Int32) × Value × Value × Nat × ClassId × (Nat → Int32) × Nat × ClassId × (Nat → Int32) => [(h0, .inr (11, [.ref u.1, u.2.2.2.1, u.2.2.2.2.1, u.2.2.2.2.2.1, u.2.2.2.2.2.2.1, u.2.2.2.2.2.2.2.1, u.2.2.2.2.2.2.2.2.1, u.2.2.2.2.2.2.2.2.2.1, .int (nI 0), u.2.2.2.2.2.2.2.2.2.2.1, u.2.2.2.2.2.2.2.2.2.2.2.1, u.2.2.2.2.2.2.2.2.2.2.2.2.1, u.2.2.2.2.2.2.2.2.2.2.2.2.2.1, .int (nI 0), .int (nI 0), .int (nI 0), .int (nI 0), .int (nI 0), .int (nI 0), u.2.2.2.2.2.2.2.2.2.2.2.2.2.2.1, .ref u.2.2.2.2.2.2.2.2.2.2.2.2.2.2.2.1, u.2.2.2.2.2.2.2.2.2.2.2.2.2.2.2.2.2.2.1, .ref u.2.2.2.2.2.2.2.2.2.2.2.2.2.2.2.2.2.2.2.1, u.2.2.2.2.2.2.2.2.2.2.2.2.2.2.2.2.2.2.2.2.2.2.1, .ref u.2.2.2.2.2.2.2.2.2.2.2.2.2.2.2.2.2.2.2.2.2.2.2.1, .ref u.2.2.2.2.2.2.2.2.2.2.2.2.2.2.2.2.2.2.2.2.2.2.2.2.2.2.1, u.2.2.2.2.2.2.2.2.2.2.2.2.2.2.2.2.2.2.2.2.2.2.2.2.2.2.2.2.2.1, u.2.2.2.2.2.2.2.2.2.2.2.2.2.2.2.2.2.2.2.2.2.2.2.2.2.2.2.2.2.2.1, .ref u.2.2.2.2.2.2.2.2.2.2.2.2.2.2.2.2.2.2.2.2.2.2.2.2.2.2.2.2.2.2.2.1, .ref u.2.2.2.2.2.2.2.2.2.2.2.2.2.2.2.2.2.2.2.2.2.2.2.2.2.2.2.2.2.2.2.2.2.2.1, .int (nI 0), .int (nI 0), .int (nI 0), .int (nI 0)])), (u.1, .inl (u.2.1, 64, .inl u.2.2.1)), (u.2.2.2.2.2.2.2.2.2.2.2.2.2.2.2.1, .inl (u.2.2.2.2.2.2.2.2.2.2.2.2.2.2.2.2.1, 300, .inl u.2.2.2.2.2.2.2.2.2.2.2.2.2.2.2.2.2.1)), (u.2.2.2.2.2.2.2.2.2.2.2.2.2.2.2.2.2.2.2.1, .inl (u.2.2.2.2.2.2.2.2.2.2.2.2.2.2.2.2.2.2.2.2.1, 70, .inl u.2.2.2.2.2.2.2.2.2.2.2.2.2.2.2.2.2.2.2.2.2.1)), (u.2.2.2.2.2.2.2.2.2.2.2.2.2.2.2.2.2.2.2.2.2.2.2.1, .inl (u.2.2.2.2.2.2.2.2.2.2.2.2.2.2.2.2.2.2.2.2.2.2.2.2.1, 1200, .inl u.2.2.2.2.2.2.2.2.2.2.2.2.2.2.2.2.2.2.2.2.2.2.2.2.2.1)), (u.2.2.2.2.2.2.2.2.2.2.2.2.2.2.2.2.2.2.2.2.2.2.2.2.2.2.1, .inl (u.2.2.2.2.2.2.2.2.2.2.2.2.2.2.2.2.2.2.2.2.2.2.2.2.2.2.2.1, 32, .inl u.2.2.2.2.2.2.2.2.2.2.2.2.2.2.2.2.2.2.2.2.2.2.2.2.2.2.2.2.1)), (u.2.2.2.2.2.2.2.2.2.2.2.2.2.2.2.2.2.2.2.2.2.2.2.2.2.2.2.2.2.2.2.1, .inl (u.2.2.2.2.2.2.2.2.2.2.2.2.2.2.2.2.2.2.2.2.2.2.2.2.2.2.2.2.2.2.2.2.1, 8, .inl u.2.2.2.2.2.2.2.2.2.2.2.2.2.2.2.2.2.2.2.2.2.2.2.2.2.2.2.2.2.2.2.2.2.1)), (u.2.2.2.2.2.2.2.2.2.2.2.2.2.2.2.2.2.2.2.2.2.2.2.2.2.2.2.2.2.2.2.2.2.2.1, .inl (u.2.2.2.2.2.2.2.2.2.2.2.2.2.2.2.2.2.2.2.2.2.2.2.2.2.2.2.2.2.2.2.2.2.2.2.1, 64, .inl u.2.2.2.2.2.2.2.2.2.2.2.2.2.2.2.2.2.2.2.2.2.2.2.2.2.2.2.2.2.2.2.2.2.2.2.2))]) u) ((fun u : Nat × ClassId × (Nat → Int32) × Value × Value × Value × Value × Value × Value × Value × Value × Value × Value × Value × Value × Nat × ClassId × (Nat → Int32) × Value × Nat × ClassId × (Nat → Int32) × Value × Nat × ClassId × (Nat → Int32) × Nat × ClassId × (Nat → Int32) × Value × Value × Nat × ClassId × (Nat → Int32) × Nat × ClassId × (Nat → Int32) => [(u.2.1, .int), (u.2.2.2.2.2.2.2.2.2.2.2.2.2.2.2.2.1, .byte), (u.2.2.2.2.2.2.2.2.2.2.2.2.2.2.2.2.2.2.2.2.1, .byte), (u.2.2.2.2.2.2.2.2.2.2.2.2.2.2.2.2.2.2.2.2.2.2.2.2.1, .byte), (u.2.2.2.2.2.2.2.2.2.2.2.2.2.2.2.2.2.2.2.2.2.2.2.2.2.2.2.1, .byte), (u.2.2.2.2.2.2.2.2.2.2.2.2.2.2.2.2.2.2.2.2.2.2.2.2.2.2.2.2.2.2.2.2.1, .int), (u.2.2.2.2.2.2.2.2.2.2.2.2.2.2.2.2.2.2.2.2.2.2.2.2.2.2.2.2.2.2.2.2.2.2.2.1, .int)]) u) t) (va_A [(h0, .inr (11, [.null, .null, .null, .null, .null, .null, .null, .null, .int (nI 0), .null, .null, .null, .null, .int (nI 0), .int (nI 0), .int (nI 0), .int (nI 0), .int (nI 0), .int (nI 0), .null, .null, .null, .null, .null, .null, .null, .null, .null, .null, .null, .int (nI 0), .int (nI 0), .int (nI 0), .int (nI 0)]))] s.heap.size)) ([.ref h0] : List Value).toArray s 23 15712 (va_A [(h0, .inr (11, [.null, .null, .null, .null, .null, .null, .null, .null, .int (nI 0), .null, .null, .null, .null, .int (nI 0), .int (nI 0), .int (nI 0), .int (nI 0), .int (nI 0), .int (nI 0), .null, .null, .null, .null, .null, .null, .null, .null, .null, .null, .null, .int (nI 0), .int (nI 0), .int (nI 0), .int (nI 0)]))] s.heap.size) := ⟨_, rfl⟩
  rw [← hQg]
  generalize hAe : va_A [(h0, .inr (11, [.null, .null, .null, .null, .null, .null, .null, .null, .int (nI 0), .null, .null, .null, .null, .int (nI 0), .int (nI 0), .int (nI 0), .int (nI 0), .int (nI 0), .int (nI 0), .null, .null, .null, .null, .null, .null, .null, .null, .null, .null, .null, .int (nI 0), .int (nI 0), .int (nI 0), .int (nI 0)]))] s.heap.size = A at hD hZ hQg
  have hA : ∀ q : Nat, s.heap.size ≤ q → A q := fun q h => by rw [← hAe]; exact Or.inr h
  have hS : va_S A s.heap s.heap [] := va_S.rf
  have hP : va_P (dC, dI) CL [(h0, .inr (11, [.null, .null, .null, .null, .null, .null, .null, .null, .int (nI 0), .null, .null, .null, .null, .int (nI 0), .int (nI 0), .int (nI 0), .int (nI 0), .int (nI 0), .int (nI 0), .null, .null, .null, .null, .null, .null, .null, .null, .null, .null, .null, .int (nI 0), .int (nI 0), .int (nI 0), .int (nI 0)]))] s.heap := hP
  have hl := lv_entry ([.ref h0]) (n := 7) (Nat.le_of_ble_eq_true rfl)
  rw [lg_entry_eq]
  generalize (lg_sl ([.ref h0]) ++ List.replicate (7 - (lg_sl ([.ref h0])).length) Slot.unset).toArray = ls at hl ⊢
  have hl : lv_has ls 7 [(0, .ref h0)] := hl
  show W p l e ({ frames := 2, cells := 23, slots := 15712, locals := 49 } : Room) s m ([.ref h0] : List Value).toArray below meth c s.heap [] 0 0 Qg (F0 m 0 ls [])
  refine lv_aload_n hx hb d_Mo_init_0 rfl (lv_at hl 0 rfl) ?_
  refine W.objInit hx hb hown (hts _ m_330) (hts _ m_1) (hts _ m_2) rfl (by rw [hml]; exact hl.1) rfl d_Mo_init_1 (Nat.le_of_ble_eq_true rfl) (Nat.le_of_ble_eq_true rfl) ?_
  refine W.eq (g2 := F0 m 4 ls []) rfl ?_
  refine lv_aload_n hx hb d_Mo_init_4 rfl (lv_at hl 0 rfl) ?_
  refine lv_bipush (v := (nI 64)) hx hb d_Mo_init_5 (by decide +kernel) ?_
  refine va_newa (atype := .int) (ty := .int) (N' := 64) (a0 := (64, .inl (fun _ => 0))) hx hb (hts _ m_25) rfl hK hP hD hS hA (fun _ => rfl) (nI_pos (by omega)) (nI_clamp (by omega)) (by decide) (Nat.le_of_ble_eq_true rfl) (Nat.le_of_ble_eq_true rfl) d_Mo_init_7 (fun q_1 k_2 H hK hP hD hS => ?_)
  have hP : va_P (dC, dI) CL [(h0, .inr (11, [.null, .null, .null, .null, .null, .null, .null, .null, .int (nI 0), .null, .null, .null, .null, .int (nI 0), .int (nI 0), .int (nI 0), .int (nI 0), .int (nI 0), .int (nI 0), .null, .null, .null, .null, .null, .null, .null, .null, .null, .null, .null, .int (nI 0), .int (nI 0), .int (nI 0), .int (nI 0)])), (q_1, .inl (k_2, 64, .inl (fun _ => 0)))] H := hP
  have hD : va_D A [(h0, .inr (11, [.null, .null, .null, .null, .null, .null, .null, .null, .int (nI 0), .null, .null, .null, .null, .int (nI 0), .int (nI 0), .int (nI 0), .int (nI 0), .int (nI 0), .int (nI 0), .null, .null, .null, .null, .null, .null, .null, .null, .null, .null, .null, .int (nI 0), .int (nI 0), .int (nI 0), .int (nI 0)])), (q_1, .inl (k_2, 64, .inl (fun _ => 0)))] := hD
  refine lv_dup hx hb d_Mo_init_9 rfl ?_
  refine lv_iconst (v := (nI 0)) hx hb d_Mo_init_10 (by decide +kernel) ?_
  refine lv_ldc (v := (1116352408)) hx hb hown (hts _ m_331) d_Mo_init_11 ?_
  refine ki (v := nI 1116352408) (by decide) ?_
  refine kv_iast hx hb hK hP hD hS 1 0 rfl rfl (by omega) (by omega) d_Mo_init_13 (fun H locs g_3 _ hP hD hS => ?_)
  have hP : va_P (dC, dI) CL [(h0, .inr (11, [.null, .null, .null, .null, .null, .null, .null, .null, .int (nI 0), .null, .null, .null, .null, .int (nI 0), .int (nI 0), .int (nI 0), .int (nI 0), .int (nI 0), .int (nI 0), .null, .null, .null, .null, .null, .null, .null, .null, .null, .null, .null, .int (nI 0), .int (nI 0), .int (nI 0), .int (nI 0)])), (q_1, .inl (k_2, 64, .inl g_3))] H := hP
  have hD : va_D A [(h0, .inr (11, [.null, .null, .null, .null, .null, .null, .null, .null, .int (nI 0), .null, .null, .null, .null, .int (nI 0), .int (nI 0), .int (nI 0), .int (nI 0), .int (nI 0), .int (nI 0), .null, .null, .null, .null, .null, .null, .null, .null, .null, .null, .null, .int (nI 0), .int (nI 0), .int (nI 0), .int (nI 0)])), (q_1, .inl (k_2, 64, .inl g_3))] := hD
  refine lv_dup hx hb d_Mo_init_14 rfl ?_
  refine lv_iconst (v := (nI 1)) hx hb d_Mo_init_15 (by decide +kernel) ?_
  refine lv_ldc (v := (1899447441)) hx hb hown (hts _ m_332) d_Mo_init_16 ?_
  refine ki (v := nI 1899447441) (by decide) ?_
  refine kv_iast hx hb hK hP hD hS 1 0 rfl rfl (by omega) (by omega) d_Mo_init_18 (fun H locs g_4 _ hP hD hS => ?_)
  have hP : va_P (dC, dI) CL [(h0, .inr (11, [.null, .null, .null, .null, .null, .null, .null, .null, .int (nI 0), .null, .null, .null, .null, .int (nI 0), .int (nI 0), .int (nI 0), .int (nI 0), .int (nI 0), .int (nI 0), .null, .null, .null, .null, .null, .null, .null, .null, .null, .null, .null, .int (nI 0), .int (nI 0), .int (nI 0), .int (nI 0)])), (q_1, .inl (k_2, 64, .inl g_4))] H := hP
  have hD : va_D A [(h0, .inr (11, [.null, .null, .null, .null, .null, .null, .null, .null, .int (nI 0), .null, .null, .null, .null, .int (nI 0), .int (nI 0), .int (nI 0), .int (nI 0), .int (nI 0), .int (nI 0), .null, .null, .null, .null, .null, .null, .null, .null, .null, .null, .null, .int (nI 0), .int (nI 0), .int (nI 0), .int (nI 0)])), (q_1, .inl (k_2, 64, .inl g_4))] := hD
  refine lv_dup hx hb d_Mo_init_19 rfl ?_
  refine lv_iconst (v := (nI 2)) hx hb d_Mo_init_20 (by decide +kernel) ?_
  refine lv_ldc (v := (-1245643825)) hx hb hown (hts _ m_333) d_Mo_init_21 ?_
  refine kv_iast hx hb hK hP hD hS 1 0 rfl rfl (by omega) (by omega) d_Mo_init_23 (fun H locs g_5 _ hP hD hS => ?_)
  have hP : va_P (dC, dI) CL [(h0, .inr (11, [.null, .null, .null, .null, .null, .null, .null, .null, .int (nI 0), .null, .null, .null, .null, .int (nI 0), .int (nI 0), .int (nI 0), .int (nI 0), .int (nI 0), .int (nI 0), .null, .null, .null, .null, .null, .null, .null, .null, .null, .null, .null, .int (nI 0), .int (nI 0), .int (nI 0), .int (nI 0)])), (q_1, .inl (k_2, 64, .inl g_5))] H := hP
  have hD : va_D A [(h0, .inr (11, [.null, .null, .null, .null, .null, .null, .null, .null, .int (nI 0), .null, .null, .null, .null, .int (nI 0), .int (nI 0), .int (nI 0), .int (nI 0), .int (nI 0), .int (nI 0), .null, .null, .null, .null, .null, .null, .null, .null, .null, .null, .null, .int (nI 0), .int (nI 0), .int (nI 0), .int (nI 0)])), (q_1, .inl (k_2, 64, .inl g_5))] := hD
  refine lv_dup hx hb d_Mo_init_24 rfl ?_
  refine lv_iconst (v := (nI 3)) hx hb d_Mo_init_25 (by decide +kernel) ?_
  refine lv_ldc (v := (-373957723)) hx hb hown (hts _ m_334) d_Mo_init_26 ?_
  refine kv_iast hx hb hK hP hD hS 1 0 rfl rfl (by omega) (by omega) d_Mo_init_28 (fun H locs g_6 _ hP hD hS => ?_)
  have hP : va_P (dC, dI) CL [(h0, .inr (11, [.null, .null, .null, .null, .null, .null, .null, .null, .int (nI 0), .null, .null, .null, .null, .int (nI 0), .int (nI 0), .int (nI 0), .int (nI 0), .int (nI 0), .int (nI 0), .null, .null, .null, .null, .null, .null, .null, .null, .null, .null, .null, .int (nI 0), .int (nI 0), .int (nI 0), .int (nI 0)])), (q_1, .inl (k_2, 64, .inl g_6))] H := hP
  have hD : va_D A [(h0, .inr (11, [.null, .null, .null, .null, .null, .null, .null, .null, .int (nI 0), .null, .null, .null, .null, .int (nI 0), .int (nI 0), .int (nI 0), .int (nI 0), .int (nI 0), .int (nI 0), .null, .null, .null, .null, .null, .null, .null, .null, .null, .null, .null, .int (nI 0), .int (nI 0), .int (nI 0), .int (nI 0)])), (q_1, .inl (k_2, 64, .inl g_6))] := hD
  refine lv_dup hx hb d_Mo_init_29 rfl ?_
  refine lv_iconst (v := (nI 4)) hx hb d_Mo_init_30 (by decide +kernel) ?_
  refine lv_ldc (v := (961987163)) hx hb hown (hts _ m_335) d_Mo_init_31 ?_
  refine ki (v := nI 961987163) (by decide) ?_
  refine kv_iast hx hb hK hP hD hS 1 0 rfl rfl (by omega) (by omega) d_Mo_init_33 (fun H locs g_7 _ hP hD hS => ?_)
  have hP : va_P (dC, dI) CL [(h0, .inr (11, [.null, .null, .null, .null, .null, .null, .null, .null, .int (nI 0), .null, .null, .null, .null, .int (nI 0), .int (nI 0), .int (nI 0), .int (nI 0), .int (nI 0), .int (nI 0), .null, .null, .null, .null, .null, .null, .null, .null, .null, .null, .null, .int (nI 0), .int (nI 0), .int (nI 0), .int (nI 0)])), (q_1, .inl (k_2, 64, .inl g_7))] H := hP
  have hD : va_D A [(h0, .inr (11, [.null, .null, .null, .null, .null, .null, .null, .null, .int (nI 0), .null, .null, .null, .null, .int (nI 0), .int (nI 0), .int (nI 0), .int (nI 0), .int (nI 0), .int (nI 0), .null, .null, .null, .null, .null, .null, .null, .null, .null, .null, .null, .int (nI 0), .int (nI 0), .int (nI 0), .int (nI 0)])), (q_1, .inl (k_2, 64, .inl g_7))] := hD
  refine lv_dup hx hb d_Mo_init_34 rfl ?_
  refine lv_iconst (v := (nI 5)) hx hb d_Mo_init_35 (by decide +kernel) ?_
  refine lv_ldc (v := (1508970993)) hx hb hown (hts _ m_336) d_Mo_init_36 ?_
  refine ki (v := nI 1508970993) (by decide) ?_
  refine kv_iast hx hb hK hP hD hS 1 0 rfl rfl (by omega) (by omega) d_Mo_init_38 (fun H locs g_8 _ hP hD hS => ?_)
  have hP : va_P (dC, dI) CL [(h0, .inr (11, [.null, .null, .null, .null, .null, .null, .null, .null, .int (nI 0), .null, .null, .null, .null, .int (nI 0), .int (nI 0), .int (nI 0), .int (nI 0), .int (nI 0), .int (nI 0), .null, .null, .null, .null, .null, .null, .null, .null, .null, .null, .null, .int (nI 0), .int (nI 0), .int (nI 0), .int (nI 0)])), (q_1, .inl (k_2, 64, .inl g_8))] H := hP
  have hD : va_D A [(h0, .inr (11, [.null, .null, .null, .null, .null, .null, .null, .null, .int (nI 0), .null, .null, .null, .null, .int (nI 0), .int (nI 0), .int (nI 0), .int (nI 0), .int (nI 0), .int (nI 0), .null, .null, .null, .null, .null, .null, .null, .null, .null, .null, .null, .int (nI 0), .int (nI 0), .int (nI 0), .int (nI 0)])), (q_1, .inl (k_2, 64, .inl g_8))] := hD
  refine lv_dup hx hb d_Mo_init_39 rfl ?_
  refine lv_bipush (v := (nI 6)) hx hb d_Mo_init_40 (by decide +kernel) ?_
  refine lv_ldc (v := (-1841331548)) hx hb hown (hts _ m_337) d_Mo_init_42 ?_
  refine kv_iast hx hb hK hP hD hS 1 0 rfl rfl (by omega) (by omega) d_Mo_init_44 (fun H locs g_9 _ hP hD hS => ?_)
  have hP : va_P (dC, dI) CL [(h0, .inr (11, [.null, .null, .null, .null, .null, .null, .null, .null, .int (nI 0), .null, .null, .null, .null, .int (nI 0), .int (nI 0), .int (nI 0), .int (nI 0), .int (nI 0), .int (nI 0), .null, .null, .null, .null, .null, .null, .null, .null, .null, .null, .null, .int (nI 0), .int (nI 0), .int (nI 0), .int (nI 0)])), (q_1, .inl (k_2, 64, .inl g_9))] H := hP
  have hD : va_D A [(h0, .inr (11, [.null, .null, .null, .null, .null, .null, .null, .null, .int (nI 0), .null, .null, .null, .null, .int (nI 0), .int (nI 0), .int (nI 0), .int (nI 0), .int (nI 0), .int (nI 0), .null, .null, .null, .null, .null, .null, .null, .null, .null, .null, .null, .int (nI 0), .int (nI 0), .int (nI 0), .int (nI 0)])), (q_1, .inl (k_2, 64, .inl g_9))] := hD
  refine lv_dup hx hb d_Mo_init_45 rfl ?_
  refine lv_bipush (v := (nI 7)) hx hb d_Mo_init_46 (by decide +kernel) ?_
  refine lv_ldc (v := (-1424204075)) hx hb hown (hts _ m_338) d_Mo_init_48 ?_
  refine kv_iast hx hb hK hP hD hS 1 0 rfl rfl (by omega) (by omega) d_Mo_init_50 (fun H locs g_10 _ hP hD hS => ?_)
  have hP : va_P (dC, dI) CL [(h0, .inr (11, [.null, .null, .null, .null, .null, .null, .null, .null, .int (nI 0), .null, .null, .null, .null, .int (nI 0), .int (nI 0), .int (nI 0), .int (nI 0), .int (nI 0), .int (nI 0), .null, .null, .null, .null, .null, .null, .null, .null, .null, .null, .null, .int (nI 0), .int (nI 0), .int (nI 0), .int (nI 0)])), (q_1, .inl (k_2, 64, .inl g_10))] H := hP
  have hD : va_D A [(h0, .inr (11, [.null, .null, .null, .null, .null, .null, .null, .null, .int (nI 0), .null, .null, .null, .null, .int (nI 0), .int (nI 0), .int (nI 0), .int (nI 0), .int (nI 0), .int (nI 0), .null, .null, .null, .null, .null, .null, .null, .null, .null, .null, .null, .int (nI 0), .int (nI 0), .int (nI 0), .int (nI 0)])), (q_1, .inl (k_2, 64, .inl g_10))] := hD
  refine lv_dup hx hb d_Mo_init_51 rfl ?_
  refine lv_bipush (v := (nI 8)) hx hb d_Mo_init_52 (by decide +kernel) ?_
  refine lv_ldc (v := (-670586216)) hx hb hown (hts _ m_339) d_Mo_init_54 ?_
  refine kv_iast hx hb hK hP hD hS 1 0 rfl rfl (by omega) (by omega) d_Mo_init_56 (fun H locs g_11 _ hP hD hS => ?_)
  have hP : va_P (dC, dI) CL [(h0, .inr (11, [.null, .null, .null, .null, .null, .null, .null, .null, .int (nI 0), .null, .null, .null, .null, .int (nI 0), .int (nI 0), .int (nI 0), .int (nI 0), .int (nI 0), .int (nI 0), .null, .null, .null, .null, .null, .null, .null, .null, .null, .null, .null, .int (nI 0), .int (nI 0), .int (nI 0), .int (nI 0)])), (q_1, .inl (k_2, 64, .inl g_11))] H := hP
  have hD : va_D A [(h0, .inr (11, [.null, .null, .null, .null, .null, .null, .null, .null, .int (nI 0), .null, .null, .null, .null, .int (nI 0), .int (nI 0), .int (nI 0), .int (nI 0), .int (nI 0), .int (nI 0), .null, .null, .null, .null, .null, .null, .null, .null, .null, .null, .null, .int (nI 0), .int (nI 0), .int (nI 0), .int (nI 0)])), (q_1, .inl (k_2, 64, .inl g_11))] := hD
  refine lv_dup hx hb d_Mo_init_57 rfl ?_
  refine lv_bipush (v := (nI 9)) hx hb d_Mo_init_58 (by decide +kernel) ?_
  refine lv_ldc (v := (310598401)) hx hb hown (hts _ m_340) d_Mo_init_60 ?_
  refine ki (v := nI 310598401) (by decide) ?_
  refine kv_iast hx hb hK hP hD hS 1 0 rfl rfl (by omega) (by omega) d_Mo_init_62 (fun H locs g_12 _ hP hD hS => ?_)
  have hP : va_P (dC, dI) CL [(h0, .inr (11, [.null, .null, .null, .null, .null, .null, .null, .null, .int (nI 0), .null, .null, .null, .null, .int (nI 0), .int (nI 0), .int (nI 0), .int (nI 0), .int (nI 0), .int (nI 0), .null, .null, .null, .null, .null, .null, .null, .null, .null, .null, .null, .int (nI 0), .int (nI 0), .int (nI 0), .int (nI 0)])), (q_1, .inl (k_2, 64, .inl g_12))] H := hP
  have hD : va_D A [(h0, .inr (11, [.null, .null, .null, .null, .null, .null, .null, .null, .int (nI 0), .null, .null, .null, .null, .int (nI 0), .int (nI 0), .int (nI 0), .int (nI 0), .int (nI 0), .int (nI 0), .null, .null, .null, .null, .null, .null, .null, .null, .null, .null, .null, .int (nI 0), .int (nI 0), .int (nI 0), .int (nI 0)])), (q_1, .inl (k_2, 64, .inl g_12))] := hD
  refine lv_dup hx hb d_Mo_init_63 rfl ?_
  refine lv_bipush (v := (nI 10)) hx hb d_Mo_init_64 (by decide +kernel) ?_
  refine lv_ldc (v := (607225278)) hx hb hown (hts _ m_341) d_Mo_init_66 ?_
  refine ki (v := nI 607225278) (by decide) ?_
  refine kv_iast hx hb hK hP hD hS 1 0 rfl rfl (by omega) (by omega) d_Mo_init_68 (fun H locs g_13 _ hP hD hS => ?_)
  have hP : va_P (dC, dI) CL [(h0, .inr (11, [.null, .null, .null, .null, .null, .null, .null, .null, .int (nI 0), .null, .null, .null, .null, .int (nI 0), .int (nI 0), .int (nI 0), .int (nI 0), .int (nI 0), .int (nI 0), .null, .null, .null, .null, .null, .null, .null, .null, .null, .null, .null, .int (nI 0), .int (nI 0), .int (nI 0), .int (nI 0)])), (q_1, .inl (k_2, 64, .inl g_13))] H := hP
  have hD : va_D A [(h0, .inr (11, [.null, .null, .null, .null, .null, .null, .null, .null, .int (nI 0), .null, .null, .null, .null, .int (nI 0), .int (nI 0), .int (nI 0), .int (nI 0), .int (nI 0), .int (nI 0), .null, .null, .null, .null, .null, .null, .null, .null, .null, .null, .null, .int (nI 0), .int (nI 0), .int (nI 0), .int (nI 0)])), (q_1, .inl (k_2, 64, .inl g_13))] := hD
  refine lv_dup hx hb d_Mo_init_69 rfl ?_
  refine lv_bipush (v := (nI 11)) hx hb d_Mo_init_70 (by decide +kernel) ?_
  refine lv_ldc (v := (1426881987)) hx hb hown (hts _ m_342) d_Mo_init_72 ?_
  refine ki (v := nI 1426881987) (by decide) ?_
  refine kv_iast hx hb hK hP hD hS 1 0 rfl rfl (by omega) (by omega) d_Mo_init_74 (fun H locs g_14 _ hP hD hS => ?_)
  have hP : va_P (dC, dI) CL [(h0, .inr (11, [.null, .null, .null, .null, .null, .null, .null, .null, .int (nI 0), .null, .null, .null, .null, .int (nI 0), .int (nI 0), .int (nI 0), .int (nI 0), .int (nI 0), .int (nI 0), .null, .null, .null, .null, .null, .null, .null, .null, .null, .null, .null, .int (nI 0), .int (nI 0), .int (nI 0), .int (nI 0)])), (q_1, .inl (k_2, 64, .inl g_14))] H := hP
  have hD : va_D A [(h0, .inr (11, [.null, .null, .null, .null, .null, .null, .null, .null, .int (nI 0), .null, .null, .null, .null, .int (nI 0), .int (nI 0), .int (nI 0), .int (nI 0), .int (nI 0), .int (nI 0), .null, .null, .null, .null, .null, .null, .null, .null, .null, .null, .null, .int (nI 0), .int (nI 0), .int (nI 0), .int (nI 0)])), (q_1, .inl (k_2, 64, .inl g_14))] := hD
  refine lv_dup hx hb d_Mo_init_75 rfl ?_
  refine lv_bipush (v := (nI 12)) hx hb d_Mo_init_76 (by decide +kernel) ?_
  refine lv_ldc (v := (1925078388)) hx hb hown (hts _ m_343) d_Mo_init_78 ?_
  refine ki (v := nI 1925078388) (by decide) ?_
  refine kv_iast hx hb hK hP hD hS 1 0 rfl rfl (by omega) (by omega) d_Mo_init_80 (fun H locs g_15 _ hP hD hS => ?_)
  have hP : va_P (dC, dI) CL [(h0, .inr (11, [.null, .null, .null, .null, .null, .null, .null, .null, .int (nI 0), .null, .null, .null, .null, .int (nI 0), .int (nI 0), .int (nI 0), .int (nI 0), .int (nI 0), .int (nI 0), .null, .null, .null, .null, .null, .null, .null, .null, .null, .null, .null, .int (nI 0), .int (nI 0), .int (nI 0), .int (nI 0)])), (q_1, .inl (k_2, 64, .inl g_15))] H := hP
  have hD : va_D A [(h0, .inr (11, [.null, .null, .null, .null, .null, .null, .null, .null, .int (nI 0), .null, .null, .null, .null, .int (nI 0), .int (nI 0), .int (nI 0), .int (nI 0), .int (nI 0), .int (nI 0), .null, .null, .null, .null, .null, .null, .null, .null, .null, .null, .null, .int (nI 0), .int (nI 0), .int (nI 0), .int (nI 0)])), (q_1, .inl (k_2, 64, .inl g_15))] := hD
  refine lv_dup hx hb d_Mo_init_81 rfl ?_
  refine lv_bipush (v := (nI 13)) hx hb d_Mo_init_82 (by decide +kernel) ?_
  refine lv_ldc (v := (-2132889090)) hx hb hown (hts _ m_344) d_Mo_init_84 ?_
  refine kv_iast hx hb hK hP hD hS 1 0 rfl rfl (by omega) (by omega) d_Mo_init_86 (fun H locs g_16 _ hP hD hS => ?_)
  have hP : va_P (dC, dI) CL [(h0, .inr (11, [.null, .null, .null, .null, .null, .null, .null, .null, .int (nI 0), .null, .null, .null, .null, .int (nI 0), .int (nI 0), .int (nI 0), .int (nI 0), .int (nI 0), .int (nI 0), .null, .null, .null, .null, .null, .null, .null, .null, .null, .null, .null, .int (nI 0), .int (nI 0), .int (nI 0), .int (nI 0)])), (q_1, .inl (k_2, 64, .inl g_16))] H := hP
  have hD : va_D A [(h0, .inr (11, [.null, .null, .null, .null, .null, .null, .null, .null, .int (nI 0), .null, .null, .null, .null, .int (nI 0), .int (nI 0), .int (nI 0), .int (nI 0), .int (nI 0), .int (nI 0), .null, .null, .null, .null, .null, .null, .null, .null, .null, .null, .null, .int (nI 0), .int (nI 0), .int (nI 0), .int (nI 0)])), (q_1, .inl (k_2, 64, .inl g_16))] := hD
  refine lv_dup hx hb d_Mo_init_87 rfl ?_
  refine lv_bipush (v := (nI 14)) hx hb d_Mo_init_88 (by decide +kernel) ?_
  refine lv_ldc (v := (-1680079193)) hx hb hown (hts _ m_345) d_Mo_init_90 ?_
  refine kv_iast hx hb hK hP hD hS 1 0 rfl rfl (by omega) (by omega) d_Mo_init_92 (fun H locs g_17 _ hP hD hS => ?_)
  have hP : va_P (dC, dI) CL [(h0, .inr (11, [.null, .null, .null, .null, .null, .null, .null, .null, .int (nI 0), .null, .null, .null, .null, .int (nI 0), .int (nI 0), .int (nI 0), .int (nI 0), .int (nI 0), .int (nI 0), .null, .null, .null, .null, .null, .null, .null, .null, .null, .null, .null, .int (nI 0), .int (nI 0), .int (nI 0), .int (nI 0)])), (q_1, .inl (k_2, 64, .inl g_17))] H := hP
  have hD : va_D A [(h0, .inr (11, [.null, .null, .null, .null, .null, .null, .null, .null, .int (nI 0), .null, .null, .null, .null, .int (nI 0), .int (nI 0), .int (nI 0), .int (nI 0), .int (nI 0), .int (nI 0), .null, .null, .null, .null, .null, .null, .null, .null, .null, .null, .null, .int (nI 0), .int (nI 0), .int (nI 0), .int (nI 0)])), (q_1, .inl (k_2, 64, .inl g_17))] := hD
  refine lv_dup hx hb d_Mo_init_93 rfl ?_
  refine lv_bipush (v := (nI 15)) hx hb d_Mo_init_94 (by decide +kernel) ?_
  refine lv_ldc (v := (-1046744716)) hx hb hown (hts _ m_346) d_Mo_init_96 ?_
  refine kv_iast hx hb hK hP hD hS 1 0 rfl rfl (by omega) (by omega) d_Mo_init_98 (fun H locs g_18 _ hP hD hS => ?_)
  have hP : va_P (dC, dI) CL [(h0, .inr (11, [.null, .null, .null, .null, .null, .null, .null, .null, .int (nI 0), .null, .null, .null, .null, .int (nI 0), .int (nI 0), .int (nI 0), .int (nI 0), .int (nI 0), .int (nI 0), .null, .null, .null, .null, .null, .null, .null, .null, .null, .null, .null, .int (nI 0), .int (nI 0), .int (nI 0), .int (nI 0)])), (q_1, .inl (k_2, 64, .inl g_18))] H := hP
  have hD : va_D A [(h0, .inr (11, [.null, .null, .null, .null, .null, .null, .null, .null, .int (nI 0), .null, .null, .null, .null, .int (nI 0), .int (nI 0), .int (nI 0), .int (nI 0), .int (nI 0), .int (nI 0), .null, .null, .null, .null, .null, .null, .null, .null, .null, .null, .null, .int (nI 0), .int (nI 0), .int (nI 0), .int (nI 0)])), (q_1, .inl (k_2, 64, .inl g_18))] := hD
  refine lv_dup hx hb d_Mo_init_99 rfl ?_
  refine lv_bipush (v := (nI 16)) hx hb d_Mo_init_100 (by decide +kernel) ?_
  refine lv_ldc (v := (-459576895)) hx hb hown (hts _ m_347) d_Mo_init_102 ?_
  refine kv_iast hx hb hK hP hD hS 1 0 rfl rfl (by omega) (by omega) d_Mo_init_104 (fun H locs g_19 _ hP hD hS => ?_)
  have hP : va_P (dC, dI) CL [(h0, .inr (11, [.null, .null, .null, .null, .null, .null, .null, .null, .int (nI 0), .null, .null, .null, .null, .int (nI 0), .int (nI 0), .int (nI 0), .int (nI 0), .int (nI 0), .int (nI 0), .null, .null, .null, .null, .null, .null, .null, .null, .null, .null, .null, .int (nI 0), .int (nI 0), .int (nI 0), .int (nI 0)])), (q_1, .inl (k_2, 64, .inl g_19))] H := hP
  have hD : va_D A [(h0, .inr (11, [.null, .null, .null, .null, .null, .null, .null, .null, .int (nI 0), .null, .null, .null, .null, .int (nI 0), .int (nI 0), .int (nI 0), .int (nI 0), .int (nI 0), .int (nI 0), .null, .null, .null, .null, .null, .null, .null, .null, .null, .null, .null, .int (nI 0), .int (nI 0), .int (nI 0), .int (nI 0)])), (q_1, .inl (k_2, 64, .inl g_19))] := hD
  refine lv_dup hx hb d_Mo_init_105 rfl ?_
  refine lv_bipush (v := (nI 17)) hx hb d_Mo_init_106 (by decide +kernel) ?_
  refine lv_ldc (v := (-272742522)) hx hb hown (hts _ m_348) d_Mo_init_108 ?_
  refine kv_iast hx hb hK hP hD hS 1 0 rfl rfl (by omega) (by omega) d_Mo_init_110 (fun H locs g_20 _ hP hD hS => ?_)
  have hP : va_P (dC, dI) CL [(h0, .inr (11, [.null, .null, .null, .null, .null, .null, .null, .null, .int (nI 0), .null, .null, .null, .null, .int (nI 0), .int (nI 0), .int (nI 0), .int (nI 0), .int (nI 0), .int (nI 0), .null, .null, .null, .null, .null, .null, .null, .null, .null, .null, .null, .int (nI 0), .int (nI 0), .int (nI 0), .int (nI 0)])), (q_1, .inl (k_2, 64, .inl g_20))] H := hP
  have hD : va_D A [(h0, .inr (11, [.null, .null, .null, .null, .null, .null, .null, .null, .int (nI 0), .null, .null, .null, .null, .int (nI 0), .int (nI 0), .int (nI 0), .int (nI 0), .int (nI 0), .int (nI 0), .null, .null, .null, .null, .null, .null, .null, .null, .null, .null, .null, .int (nI 0), .int (nI 0), .int (nI 0), .int (nI 0)])), (q_1, .inl (k_2, 64, .inl g_20))] := hD
  refine lv_dup hx hb d_Mo_init_111 rfl ?_
  refine lv_bipush (v := (nI 18)) hx hb d_Mo_init_112 (by decide +kernel) ?_
  refine lv_ldc (v := (264347078)) hx hb hown (hts _ m_349) d_Mo_init_114 ?_
  refine ki (v := nI 264347078) (by decide) ?_
  refine kv_iast hx hb hK hP hD hS 1 0 rfl rfl (by omega) (by omega) d_Mo_init_116 (fun H locs g_21 _ hP hD hS => ?_)
  have hP : va_P (dC, dI) CL [(h0, .inr (11, [.null, .null, .null, .null, .null, .null, .null, .null, .int (nI 0), .null, .null, .null, .null, .int (nI 0), .int (nI 0), .int (nI 0), .int (nI 0), .int (nI 0), .int (nI 0), .null, .null, .null, .null, .null, .null, .null, .null, .null, .null, .null, .int (nI 0), .int (nI 0), .int (nI 0), .int (nI 0)])), (q_1, .inl (k_2, 64, .inl g_21))] H := hP
  have hD : va_D A [(h0, .inr (11, [.null, .null, .null, .null, .null, .null, .null, .null, .int (nI 0), .null, .null, .null, .null, .int (nI 0), .int (nI 0), .int (nI 0), .int (nI 0), .int (nI 0), .int (nI 0), .null, .null, .null, .null, .null, .null, .null, .null, .null, .null, .null, .int (nI 0), .int (nI 0), .int (nI 0), .int (nI 0)])), (q_1, .inl (k_2, 64, .inl g_21))] := hD
  refine lv_dup hx hb d_Mo_init_117 rfl ?_
  refine lv_bipush (v := (nI 19)) hx hb d_Mo_init_118 (by decide +kernel) ?_
  refine lv_ldc (v := (604807628)) hx hb hown (hts _ m_350) d_Mo_init_120 ?_
  refine ki (v := nI 604807628) (by decide) ?_
  refine kv_iast hx hb hK hP hD hS 1 0 rfl rfl (by omega) (by omega) d_Mo_init_122 (fun H locs g_22 _ hP hD hS => ?_)
  have hP : va_P (dC, dI) CL [(h0, .inr (11, [.null, .null, .null, .null, .null, .null, .null, .null, .int (nI 0), .null, .null, .null, .null, .int (nI 0), .int (nI 0), .int (nI 0), .int (nI 0), .int (nI 0), .int (nI 0), .null, .null, .null, .null, .null, .null, .null, .null, .null, .null, .null, .int (nI 0), .int (nI 0), .int (nI 0), .int (nI 0)])), (q_1, .inl (k_2, 64, .inl g_22))] H := hP
  have hD : va_D A [(h0, .inr (11, [.null, .null, .null, .null, .null, .null, .null, .null, .int (nI 0), .null, .null, .null, .null, .int (nI 0), .int (nI 0), .int (nI 0), .int (nI 0), .int (nI 0), .int (nI 0), .null, .null, .null, .null, .null, .null, .null, .null, .null, .null, .null, .int (nI 0), .int (nI 0), .int (nI 0), .int (nI 0)])), (q_1, .inl (k_2, 64, .inl g_22))] := hD
  refine lv_dup hx hb d_Mo_init_123 rfl ?_
  refine lv_bipush (v := (nI 20)) hx hb d_Mo_init_124 (by decide +kernel) ?_
  refine lv_ldc (v := (770255983)) hx hb hown (hts _ m_351) d_Mo_init_126 ?_
  refine ki (v := nI 770255983) (by decide) ?_
  refine kv_iast hx hb hK hP hD hS 1 0 rfl rfl (by omega) (by omega) d_Mo_init_128 (fun H locs g_23 _ hP hD hS => ?_)
  have hP : va_P (dC, dI) CL [(h0, .inr (11, [.null, .null, .null, .null, .null, .null, .null, .null, .int (nI 0), .null, .null, .null, .null, .int (nI 0), .int (nI 0), .int (nI 0), .int (nI 0), .int (nI 0), .int (nI 0), .null, .null, .null, .null, .null, .null, .null, .null, .null, .null, .null, .int (nI 0), .int (nI 0), .int (nI 0), .int (nI 0)])), (q_1, .inl (k_2, 64, .inl g_23))] H := hP
  have hD : va_D A [(h0, .inr (11, [.null, .null, .null, .null, .null, .null, .null, .null, .int (nI 0), .null, .null, .null, .null, .int (nI 0), .int (nI 0), .int (nI 0), .int (nI 0), .int (nI 0), .int (nI 0), .null, .null, .null, .null, .null, .null, .null, .null, .null, .null, .null, .int (nI 0), .int (nI 0), .int (nI 0), .int (nI 0)])), (q_1, .inl (k_2, 64, .inl g_23))] := hD
  refine lv_dup hx hb d_Mo_init_129 rfl ?_
  refine lv_bipush (v := (nI 21)) hx hb d_Mo_init_130 (by decide +kernel) ?_
  refine lv_ldc (v := (1249150122)) hx hb hown (hts _ m_352) d_Mo_init_132 ?_
  refine ki (v := nI 1249150122) (by decide) ?_
  refine kv_iast hx hb hK hP hD hS 1 0 rfl rfl (by omega) (by omega) d_Mo_init_134 (fun H locs g_24 _ hP hD hS => ?_)
  have hP : va_P (dC, dI) CL [(h0, .inr (11, [.null, .null, .null, .null, .null, .null, .null, .null, .int (nI 0), .null, .null, .null, .null, .int (nI 0), .int (nI 0), .int (nI 0), .int (nI 0), .int (nI 0), .int (nI 0), .null, .null, .null, .null, .null, .null, .null, .null, .null, .null, .null, .int (nI 0), .int (nI 0), .int (nI 0), .int (nI 0)])), (q_1, .inl (k_2, 64, .inl g_24))] H := hP
  have hD : va_D A [(h0, .inr (11, [.null, .null, .null, .null, .null, .null, .null, .null, .int (nI 0), .null, .null, .null, .null, .int (nI 0), .int (nI 0), .int (nI 0), .int (nI 0), .int (nI 0), .int (nI 0), .null, .null, .null, .null, .null, .null, .null, .null, .null, .null, .null, .int (nI 0), .int (nI 0), .int (nI 0), .int (nI 0)])), (q_1, .inl (k_2, 64, .inl g_24))] := hD
  refine lv_dup hx hb d_Mo_init_135 rfl ?_
  refine lv_bipush (v := (nI 22)) hx hb d_Mo_init_136 (by decide +kernel) ?_
  refine lv_ldc (v := (1555081692)) hx hb hown (hts _ m_353) d_Mo_init_138 ?_
  refine ki (v := nI 1555081692) (by decide) ?_
  refine kv_iast hx hb hK hP hD hS 1 0 rfl rfl (by omega) (by omega) d_Mo_init_140 (fun H locs g_25 _ hP hD hS => ?_)
  have hP : va_P (dC, dI) CL [(h0, .inr (11, [.null, .null, .null, .null, .null, .null, .null, .null, .int (nI 0), .null, .null, .null, .null, .int (nI 0), .int (nI 0), .int (nI 0), .int (nI 0), .int (nI 0), .int (nI 0), .null, .null, .null, .null, .null, .null, .null, .null, .null, .null, .null, .int (nI 0), .int (nI 0), .int (nI 0), .int (nI 0)])), (q_1, .inl (k_2, 64, .inl g_25))] H := hP
  have hD : va_D A [(h0, .inr (11, [.null, .null, .null, .null, .null, .null, .null, .null, .int (nI 0), .null, .null, .null, .null, .int (nI 0), .int (nI 0), .int (nI 0), .int (nI 0), .int (nI 0), .int (nI 0), .null, .null, .null, .null, .null, .null, .null, .null, .null, .null, .null, .int (nI 0), .int (nI 0), .int (nI 0), .int (nI 0)])), (q_1, .inl (k_2, 64, .inl g_25))] := hD
  refine lv_dup hx hb d_Mo_init_141 rfl ?_
  refine lv_bipush (v := (nI 23)) hx hb d_Mo_init_142 (by decide +kernel) ?_
  refine lv_ldc (v := (1996064986)) hx hb hown (hts _ m_354) d_Mo_init_144 ?_
  refine ki (v := nI 1996064986) (by decide) ?_
  refine kv_iast hx hb hK hP hD hS 1 0 rfl rfl (by omega) (by omega) d_Mo_init_146 (fun H locs g_26 _ hP hD hS => ?_)
  have hP : va_P (dC, dI) CL [(h0, .inr (11, [.null, .null, .null, .null, .null, .null, .null, .null, .int (nI 0), .null, .null, .null, .null, .int (nI 0), .int (nI 0), .int (nI 0), .int (nI 0), .int (nI 0), .int (nI 0), .null, .null, .null, .null, .null, .null, .null, .null, .null, .null, .null, .int (nI 0), .int (nI 0), .int (nI 0), .int (nI 0)])), (q_1, .inl (k_2, 64, .inl g_26))] H := hP
  have hD : va_D A [(h0, .inr (11, [.null, .null, .null, .null, .null, .null, .null, .null, .int (nI 0), .null, .null, .null, .null, .int (nI 0), .int (nI 0), .int (nI 0), .int (nI 0), .int (nI 0), .int (nI 0), .null, .null, .null, .null, .null, .null, .null, .null, .null, .null, .null, .int (nI 0), .int (nI 0), .int (nI 0), .int (nI 0)])), (q_1, .inl (k_2, 64, .inl g_26))] := hD
  refine lv_dup hx hb d_Mo_init_147 rfl ?_
  refine lv_bipush (v := (nI 24)) hx hb d_Mo_init_148 (by decide +kernel) ?_
  refine lv_ldc (v := (-1740746414)) hx hb hown (hts _ m_355) d_Mo_init_150 ?_
  refine kv_iast hx hb hK hP hD hS 1 0 rfl rfl (by omega) (by omega) d_Mo_init_152 (fun H locs g_27 _ hP hD hS => ?_)
  have hP : va_P (dC, dI) CL [(h0, .inr (11, [.null, .null, .null, .null, .null, .null, .null, .null, .int (nI 0), .null, .null, .null, .null, .int (nI 0), .int (nI 0), .int (nI 0), .int (nI 0), .int (nI 0), .int (nI 0), .null, .null, .null, .null, .null, .null, .null, .null, .null, .null, .null, .int (nI 0), .int (nI 0), .int (nI 0), .int (nI 0)])), (q_1, .inl (k_2, 64, .inl g_27))] H := hP
  have hD : va_D A [(h0, .inr (11, [.null, .null, .null, .null, .null, .null, .null, .null, .int (nI 0), .null, .null, .null, .null, .int (nI 0), .int (nI 0), .int (nI 0), .int (nI 0), .int (nI 0), .int (nI 0), .null, .null, .null, .null, .null, .null, .null, .null, .null, .null, .null, .int (nI 0), .int (nI 0), .int (nI 0), .int (nI 0)])), (q_1, .inl (k_2, 64, .inl g_27))] := hD
  refine lv_dup hx hb d_Mo_init_153 rfl ?_
  refine lv_bipush (v := (nI 25)) hx hb d_Mo_init_154 (by decide +kernel) ?_
  refine lv_ldc (v := (-1473132947)) hx hb hown (hts _ m_356) d_Mo_init_156 ?_
  refine kv_iast hx hb hK hP hD hS 1 0 rfl rfl (by omega) (by omega) d_Mo_init_158 (fun H locs g_28 _ hP hD hS => ?_)
  have hP : va_P (dC, dI) CL [(h0, .inr (11, [.null, .null, .null, .null, .null, .null, .null, .null, .int (nI 0), .null, .null, .null, .null, .int (nI 0), .int (nI 0), .int (nI 0), .int (nI 0), .int (nI 0), .int (nI 0), .null, .null, .null, .null, .null, .null, .null, .null, .null, .null, .null, .int (nI 0), .int (nI 0), .int (nI 0), .int (nI 0)])), (q_1, .inl (k_2, 64, .inl g_28))] H := hP
  have hD : va_D A [(h0, .inr (11, [.null, .null, .null, .null, .null, .null, .null, .null, .int (nI 0), .null, .null, .null, .null, .int (nI 0), .int (nI 0), .int (nI 0), .int (nI 0), .int (nI 0), .int (nI 0), .null, .null, .null, .null, .null, .null, .null, .null, .null, .null, .null, .int (nI 0), .int (nI 0), .int (nI 0), .int (nI 0)])), (q_1, .inl (k_2, 64, .inl g_28))] := hD
  refine lv_dup hx hb d_Mo_init_159 rfl ?_
  refine lv_bipush (v := (nI 26)) hx hb d_Mo_init_160 (by decide +kernel) ?_
  refine lv_ldc (v := (-1341970488)) hx hb hown (hts _ m_357) d_Mo_init_162 ?_
  refine kv_iast hx hb hK hP hD hS 1 0 rfl rfl (by omega) (by omega) d_Mo_init_164 (fun H locs g_29 _ hP hD hS => ?_)
  have hP : va_P (dC, dI) CL [(h0, .inr (11, [.null, .null, .null, .null, .null, .null, .null, .null, .int (nI 0), .null, .null, .null, .null, .int (nI 0), .int (nI 0), .int (nI 0), .int (nI 0), .int (nI 0), .int (nI 0), .null, .null, .null, .null, .null, .null, .null, .null, .null, .null, .null, .int (nI 0), .int (nI 0), .int (nI 0), .int (nI 0)])), (q_1, .inl (k_2, 64, .inl g_29))] H := hP
  have hD : va_D A [(h0, .inr (11, [.null, .null, .null, .null, .null, .null, .null, .null, .int (nI 0), .null, .null, .null, .null, .int (nI 0), .int (nI 0), .int (nI 0), .int (nI 0), .int (nI 0), .int (nI 0), .null, .null, .null, .null, .null, .null, .null, .null, .null, .null, .null, .int (nI 0), .int (nI 0), .int (nI 0), .int (nI 0)])), (q_1, .inl (k_2, 64, .inl g_29))] := hD
  refine lv_dup hx hb d_Mo_init_165 rfl ?_
  refine lv_bipush (v := (nI 27)) hx hb d_Mo_init_166 (by decide +kernel) ?_
  refine lv_ldc (v := (-1084653625)) hx hb hown (hts _ m_358) d_Mo_init_168 ?_
  refine kv_iast hx hb hK hP hD hS 1 0 rfl rfl (by omega) (by omega) d_Mo_init_170 (fun H locs g_30 _ hP hD hS => ?_)
  have hP : va_P (dC, dI) CL [(h0, .inr (11, [.null, .null, .null, .null, .null, .null, .null, .null, .int (nI 0), .null, .null, .null, .null, .int (nI 0), .int (nI 0), .int (nI 0), .int (nI 0), .int (nI 0), .int (nI 0), .null, .null, .null, .null, .null, .null, .null, .null, .null, .null, .null, .int (nI 0), .int (nI 0), .int (nI 0), .int (nI 0)])), (q_1, .inl (k_2, 64, .inl g_30))] H := hP
  have hD : va_D A [(h0, .inr (11, [.null, .null, .null, .null, .null, .null, .null, .null, .int (nI 0), .null, .null, .null, .null, .int (nI 0), .int (nI 0), .int (nI 0), .int (nI 0), .int (nI 0), .int (nI 0), .null, .null, .null, .null, .null, .null, .null, .null, .null, .null, .null, .int (nI 0), .int (nI 0), .int (nI 0), .int (nI 0)])), (q_1, .inl (k_2, 64, .inl g_30))] := hD
  refine lv_dup hx hb d_Mo_init_171 rfl ?_
  refine lv_bipush (v := (nI 28)) hx hb d_Mo_init_172 (by decide +kernel) ?_
  refine lv_ldc (v := (-958395405)) hx hb hown (hts _ m_359) d_Mo_init_174 ?_
  refine kv_iast hx hb hK hP hD hS 1 0 rfl rfl (by omega) (by omega) d_Mo_init_176 (fun H locs g_31 _ hP hD hS => ?_)
  have hP : va_P (dC, dI) CL [(h0, .inr (11, [.null, .null, .null, .null, .null, .null, .null, .null, .int (nI 0), .null, .null, .null, .null, .int (nI 0), .int (nI 0), .int (nI 0), .int (nI 0), .int (nI 0), .int (nI 0), .null, .null, .null, .null, .null, .null, .null, .null, .null, .null, .null, .int (nI 0), .int (nI 0), .int (nI 0), .int (nI 0)])), (q_1, .inl (k_2, 64, .inl g_31))] H := hP
  have hD : va_D A [(h0, .inr (11, [.null, .null, .null, .null, .null, .null, .null, .null, .int (nI 0), .null, .null, .null, .null, .int (nI 0), .int (nI 0), .int (nI 0), .int (nI 0), .int (nI 0), .int (nI 0), .null, .null, .null, .null, .null, .null, .null, .null, .null, .null, .null, .int (nI 0), .int (nI 0), .int (nI 0), .int (nI 0)])), (q_1, .inl (k_2, 64, .inl g_31))] := hD
  refine lv_dup hx hb d_Mo_init_177 rfl ?_
  refine lv_bipush (v := (nI 29)) hx hb d_Mo_init_178 (by decide +kernel) ?_
  refine lv_ldc (v := (-710438585)) hx hb hown (hts _ m_360) d_Mo_init_180 ?_
  refine kv_iast hx hb hK hP hD hS 1 0 rfl rfl (by omega) (by omega) d_Mo_init_182 (fun H locs g_32 _ hP hD hS => ?_)
  have hP : va_P (dC, dI) CL [(h0, .inr (11, [.null, .null, .null, .null, .null, .null, .null, .null, .int (nI 0), .null, .null, .null, .null, .int (nI 0), .int (nI 0), .int (nI 0), .int (nI 0), .int (nI 0), .int (nI 0), .null, .null, .null, .null, .null, .null, .null, .null, .null, .null, .null, .int (nI 0), .int (nI 0), .int (nI 0), .int (nI 0)])), (q_1, .inl (k_2, 64, .inl g_32))] H := hP
  have hD : va_D A [(h0, .inr (11, [.null, .null, .null, .null, .null, .null, .null, .null, .int (nI 0), .null, .null, .null, .null, .int (nI 0), .int (nI 0), .int (nI 0), .int (nI 0), .int (nI 0), .int (nI 0), .null, .null, .null, .null, .null, .null, .null, .null, .null, .null, .null, .int (nI 0), .int (nI 0), .int (nI 0), .int (nI 0)])), (q_1, .inl (k_2, 64, .inl g_32))] := hD
  refine lv_dup hx hb d_Mo_init_183 rfl ?_
  refine lv_bipush (v := (nI 30)) hx hb d_Mo_init_184 (by decide +kernel) ?_
  refine lv_ldc (v := (113926993)) hx hb hown (hts _ m_361) d_Mo_init_186 ?_
  refine ki (v := nI 113926993) (by decide) ?_
  refine kv_iast hx hb hK hP hD hS 1 0 rfl rfl (by omega) (by omega) d_Mo_init_188 (fun H locs g_33 _ hP hD hS => ?_)
  have hP : va_P (dC, dI) CL [(h0, .inr (11, [.null, .null, .null, .null, .null, .null, .null, .null, .int (nI 0), .null, .null, .null, .null, .int (nI 0), .int (nI 0), .int (nI 0), .int (nI 0), .int (nI 0), .int (nI 0), .null, .null, .null, .null, .null, .null, .null, .null, .null, .null, .null, .int (nI 0), .int (nI 0), .int (nI 0), .int (nI 0)])), (q_1, .inl (k_2, 64, .inl g_33))] H := hP
  have hD : va_D A [(h0, .inr (11, [.null, .null, .null, .null, .null, .null, .null, .null, .int (nI 0), .null, .null, .null, .null, .int (nI 0), .int (nI 0), .int (nI 0), .int (nI 0), .int (nI 0), .int (nI 0), .null, .null, .null, .null, .null, .null, .null, .null, .null, .null, .null, .int (nI 0), .int (nI 0), .int (nI 0), .int (nI 0)])), (q_1, .inl (k_2, 64, .inl g_33))] := hD
  refine lv_dup hx hb d_Mo_init_189 rfl ?_
  refine lv_bipush (v := (nI 31)) hx hb d_Mo_init_190 (by decide +kernel) ?_
  refine lv_ldc (v := (338241895)) hx hb hown (hts _ m_362) d_Mo_init_192 ?_
  refine ki (v := nI 338241895) (by decide) ?_
  refine kv_iast hx hb hK hP hD hS 1 0 rfl rfl (by omega) (by omega) d_Mo_init_194 (fun H locs g_34 _ hP hD hS => ?_)
  have hP : va_P (dC, dI) CL [(h0, .inr (11, [.null, .null, .null, .null, .null, .null, .null, .null, .int (nI 0), .null, .null, .null, .null, .int (nI 0), .int (nI 0), .int (nI 0), .int (nI 0), .int (nI 0), .int (nI 0), .null, .null, .null, .null, .null, .null, .null, .null, .null, .null, .null, .int (nI 0), .int (nI 0), .int (nI 0), .int (nI 0)])), (q_1, .inl (k_2, 64, .inl g_34))] H := hP
  have hD : va_D A [(h0, .inr (11, [.null, .null, .null, .null, .null, .null, .null, .null, .int (nI 0), .null, .null, .null, .null, .int (nI 0), .int (nI 0), .int (nI 0), .int (nI 0), .int (nI 0), .int (nI 0), .null, .null, .null, .null, .null, .null, .null, .null, .null, .null, .null, .int (nI 0), .int (nI 0), .int (nI 0), .int (nI 0)])), (q_1, .inl (k_2, 64, .inl g_34))] := hD
  refine lv_dup hx hb d_Mo_init_195 rfl ?_
  refine lv_bipush (v := (nI 32)) hx hb d_Mo_init_196 (by decide +kernel) ?_
  refine lv_ldc (v := (666307205)) hx hb hown (hts _ m_363) d_Mo_init_198 ?_
  refine ki (v := nI 666307205) (by decide) ?_
  refine kv_iast hx hb hK hP hD hS 1 0 rfl rfl (by omega) (by omega) d_Mo_init_200 (fun H locs g_35 _ hP hD hS => ?_)
  have hP : va_P (dC, dI) CL [(h0, .inr (11, [.null, .null, .null, .null, .null, .null, .null, .null, .int (nI 0), .null, .null, .null, .null, .int (nI 0), .int (nI 0), .int (nI 0), .int (nI 0), .int (nI 0), .int (nI 0), .null, .null, .null, .null, .null, .null, .null, .null, .null, .null, .null, .int (nI 0), .int (nI 0), .int (nI 0), .int (nI 0)])), (q_1, .inl (k_2, 64, .inl g_35))] H := hP
  have hD : va_D A [(h0, .inr (11, [.null, .null, .null, .null, .null, .null, .null, .null, .int (nI 0), .null, .null, .null, .null, .int (nI 0), .int (nI 0), .int (nI 0), .int (nI 0), .int (nI 0), .int (nI 0), .null, .null, .null, .null, .null, .null, .null, .null, .null, .null, .null, .int (nI 0), .int (nI 0), .int (nI 0), .int (nI 0)])), (q_1, .inl (k_2, 64, .inl g_35))] := hD
  refine lv_dup hx hb d_Mo_init_201 rfl ?_
  refine lv_bipush (v := (nI 33)) hx hb d_Mo_init_202 (by decide +kernel) ?_
  refine lv_ldc (v := (773529912)) hx hb hown (hts _ m_364) d_Mo_init_204 ?_
  refine ki (v := nI 773529912) (by decide) ?_
  refine kv_iast hx hb hK hP hD hS 1 0 rfl rfl (by omega) (by omega) d_Mo_init_206 (fun H locs g_36 _ hP hD hS => ?_)
  have hP : va_P (dC, dI) CL [(h0, .inr (11, [.null, .null, .null, .null, .null, .null, .null, .null, .int (nI 0), .null, .null, .null, .null, .int (nI 0), .int (nI 0), .int (nI 0), .int (nI 0), .int (nI 0), .int (nI 0), .null, .null, .null, .null, .null, .null, .null, .null, .null, .null, .null, .int (nI 0), .int (nI 0), .int (nI 0), .int (nI 0)])), (q_1, .inl (k_2, 64, .inl g_36))] H := hP
  have hD : va_D A [(h0, .inr (11, [.null, .null, .null, .null, .null, .null, .null, .null, .int (nI 0), .null, .null, .null, .null, .int (nI 0), .int (nI 0), .int (nI 0), .int (nI 0), .int (nI 0), .int (nI 0), .null, .null, .null, .null, .null, .null, .null, .null, .null, .null, .null, .int (nI 0), .int (nI 0), .int (nI 0), .int (nI 0)])), (q_1, .inl (k_2, 64, .inl g_36))] := hD
  refine lv_dup hx hb d_Mo_init_207 rfl ?_
  refine lv_bipush (v := (nI 34)) hx hb d_Mo_init_208 (by decide +kernel) ?_
  refine lv_ldc (v := (1294757372)) hx hb hown (hts _ m_365) d_Mo_init_210 ?_
  refine ki (v := nI 1294757372) (by decide) ?_
  refine kv_iast hx hb hK hP hD hS 1 0 rfl rfl (by omega) (by omega) d_Mo_init_212 (fun H locs g_37 _ hP hD hS => ?_)
  have hP : va_P (dC, dI) CL [(h0, .inr (11, [.null, .null, .null, .null, .null, .null, .null, .null, .int (nI 0), .null, .null, .null, .null, .int (nI 0), .int (nI 0), .int (nI 0), .int (nI 0), .int (nI 0), .int (nI 0), .null, .null, .null, .null, .null, .null, .null, .null, .null, .null, .null, .int (nI 0), .int (nI 0), .int (nI 0), .int (nI 0)])), (q_1, .inl (k_2, 64, .inl g_37))] H := hP
  have hD : va_D A [(h0, .inr (11, [.null, .null, .null, .null, .null, .null, .null, .null, .int (nI 0), .null, .null, .null, .null, .int (nI 0), .int (nI 0), .int (nI 0), .int (nI 0), .int (nI 0), .int (nI 0), .null, .null, .null, .null, .null, .null, .null, .null, .null, .null, .null, .int (nI 0), .int (nI 0), .int (nI 0), .int (nI 0)])), (q_1, .inl (k_2, 64, .inl g_37))] := hD
  refine lv_dup hx hb d_Mo_init_213 rfl ?_
  refine lv_bipush (v := (nI 35)) hx hb d_Mo_init_214 (by decide +kernel) ?_
  refine lv_ldc (v := (1396182291)) hx hb hown (hts _ m_366) d_Mo_init_216 ?_
  refine ki (v := nI 1396182291) (by decide) ?_
  refine kv_iast hx hb hK hP hD hS 1 0 rfl rfl (by omega) (by omega) d_Mo_init_218 (fun H locs g_38 _ hP hD hS => ?_)
  have hP : va_P (dC, dI) CL [(h0, .inr (11, [.null, .null, .null, .null, .null, .null, .null, .null, .int (nI 0), .null, .null, .null, .null, .int (nI 0), .int (nI 0), .int (nI 0), .int (nI 0), .int (nI 0), .int (nI 0), .null, .null, .null, .null, .null, .null, .null, .null, .null, .null, .null, .int (nI 0), .int (nI 0), .int (nI 0), .int (nI 0)])), (q_1, .inl (k_2, 64, .inl g_38))] H := hP
  have hD : va_D A [(h0, .inr (11, [.null, .null, .null, .null, .null, .null, .null, .null, .int (nI 0), .null, .null, .null, .null, .int (nI 0), .int (nI 0), .int (nI 0), .int (nI 0), .int (nI 0), .int (nI 0), .null, .null, .null, .null, .null, .null, .null, .null, .null, .null, .null, .int (nI 0), .int (nI 0), .int (nI 0), .int (nI 0)])), (q_1, .inl (k_2, 64, .inl g_38))] := hD
  refine lv_dup hx hb d_Mo_init_219 rfl ?_
  refine lv_bipush (v := (nI 36)) hx hb d_Mo_init_220 (by decide +kernel) ?_
  refine lv_ldc (v := (1695183700)) hx hb hown (hts _ m_367) d_Mo_init_222 ?_
  refine ki (v := nI 1695183700) (by decide) ?_
  refine kv_iast hx hb hK hP hD hS 1 0 rfl rfl (by omega) (by omega) d_Mo_init_224 (fun H locs g_39 _ hP hD hS => ?_)
  have hP : va_P (dC, dI) CL [(h0, .inr (11, [.null, .null, .null, .null, .null, .null, .null, .null, .int (nI 0), .null, .null, .null, .null, .int (nI 0), .int (nI 0), .int (nI 0), .int (nI 0), .int (nI 0), .int (nI 0), .null, .null, .null, .null, .null, .null, .null, .null, .null, .null, .null, .int (nI 0), .int (nI 0), .int (nI 0), .int (nI 0)])), (q_1, .inl (k_2, 64, .inl g_39))] H := hP
  have hD : va_D A [(h0, .inr (11, [.null, .null, .null, .null, .null, .null, .null, .null, .int (nI 0), .null, .null, .null, .null, .int (nI 0), .int (nI 0), .int (nI 0), .int (nI 0), .int (nI 0), .int (nI 0), .null, .null, .null, .null, .null, .null, .null, .null, .null, .null, .null, .int (nI 0), .int (nI 0), .int (nI 0), .int (nI 0)])), (q_1, .inl (k_2, 64, .inl g_39))] := hD
  refine lv_dup hx hb d_Mo_init_225 rfl ?_
  refine lv_bipush (v := (nI 37)) hx hb d_Mo_init_226 (by decide +kernel) ?_
  refine lv_ldc (v := (1986661051)) hx hb hown (hts _ m_368) d_Mo_init_228 ?_
  refine ki (v := nI 1986661051) (by decide) ?_
  refine kv_iast hx hb hK hP hD hS 1 0 rfl rfl (by omega) (by omega) d_Mo_init_230 (fun H locs g_40 _ hP hD hS => ?_)
  have hP : va_P (dC, dI) CL [(h0, .inr (11, [.null, .null, .null, .null, .null, .null, .null, .null, .int (nI 0), .null, .null, .null, .null, .int (nI 0), .int (nI 0), .int (nI 0), .int (nI 0), .int (nI 0), .int (nI 0), .null, .null, .null, .null, .null, .null, .null, .null, .null, .null, .null, .int (nI 0), .int (nI 0), .int (nI 0), .int (nI 0)])), (q_1, .inl (k_2, 64, .inl g_40))] H := hP
  have hD : va_D A [(h0, .inr (11, [.null, .null, .null, .null, .null, .null, .null, .null, .int (nI 0), .null, .null, .null, .null, .int (nI 0), .int (nI 0), .int (nI 0), .int (nI 0), .int (nI 0), .int (nI 0), .null, .null, .null, .null, .null, .null, .null, .null, .null, .null, .null, .int (nI 0), .int (nI 0), .int (nI 0), .int (nI 0)])), (q_1, .inl (k_2, 64, .inl g_40))] := hD
  refine lv_dup hx hb d_Mo_init_231 rfl ?_
  refine lv_bipush (v := (nI 38)) hx hb d_Mo_init_232 (by decide +kernel) ?_
  refine lv_ldc (v := (-2117940946)) hx hb hown (hts _ m_369) d_Mo_init_234 ?_
  refine kv_iast hx hb hK hP hD hS 1 0 rfl rfl (by omega) (by omega) d_Mo_init_236 (fun H locs g_41 _ hP hD hS => ?_)
  have hP : va_P (dC, dI) CL [(h0, .inr (11, [.null, .null, .null, .null, .null, .null, .null, .null, .int (nI 0), .null, .null, .null, .null, .int (nI 0), .int (nI 0), .int (nI 0), .int (nI 0), .int (nI 0), .int (nI 0), .null, .null, .null, .null, .null, .null, .null, .null, .null, .null, .null, .int (nI 0), .int (nI 0), .int (nI 0), .int (nI 0)])), (q_1, .inl (k_2, 64, .inl g_41))] H := hP
  have hD : va_D A [(h0, .inr (11, [.null, .null, .null, .null, .null, .null, .null, .null, .int (nI 0), .null, .null, .null, .null, .int (nI 0), .int (nI 0), .int (nI 0), .int (nI 0), .int (nI 0), .int (nI 0), .null, .null, .null, .null, .null, .null, .null, .null, .null, .null, .null, .int (nI 0), .int (nI 0), .int (nI 0), .int (nI 0)])), (q_1, .inl (k_2, 64, .inl g_41))] := hD
  refine lv_dup hx hb d_Mo_init_237 rfl ?_
  refine lv_bipush (v := (nI 39)) hx hb d_Mo_init_238 (by decide +kernel) ?_
  refine lv_ldc (v := (-1838011259)) hx hb hown (hts _ m_370) d_Mo_init_240 ?_
  refine kv_iast hx hb hK hP hD hS 1 0 rfl rfl (by omega) (by omega) d_Mo_init_242 (fun H locs g_42 _ hP hD hS => ?_)
  have hP : va_P (dC, dI) CL [(h0, .inr (11, [.null, .null, .null, .null, .null, .null, .null, .null, .int (nI 0), .null, .null, .null, .null, .int (nI 0), .int (nI 0), .int (nI 0), .int (nI 0), .int (nI 0), .int (nI 0), .null, .null, .null, .null, .null, .null, .null, .null, .null, .null, .null, .int (nI 0), .int (nI 0), .int (nI 0), .int (nI 0)])), (q_1, .inl (k_2, 64, .inl g_42))] H := hP
  have hD : va_D A [(h0, .inr (11, [.null, .null, .null, .null, .null, .null, .null, .null, .int (nI 0), .null, .null, .null, .null, .int (nI 0), .int (nI 0), .int (nI 0), .int (nI 0), .int (nI 0), .int (nI 0), .null, .null, .null, .null, .null, .null, .null, .null, .null, .null, .null, .int (nI 0), .int (nI 0), .int (nI 0), .int (nI 0)])), (q_1, .inl (k_2, 64, .inl g_42))] := hD
  refine lv_dup hx hb d_Mo_init_243 rfl ?_
  refine lv_bipush (v := (nI 40)) hx hb d_Mo_init_244 (by decide +kernel) ?_
  refine lv_ldc (v := (-1564481375)) hx hb hown (hts _ m_371) d_Mo_init_246 ?_
  refine kv_iast hx hb hK hP hD hS 1 0 rfl rfl (by omega) (by omega) d_Mo_init_248 (fun H locs g_43 _ hP hD hS => ?_)
  have hP : va_P (dC, dI) CL [(h0, .inr (11, [.null, .null, .null, .null, .null, .null, .null, .null, .int (nI 0), .null, .null, .null, .null, .int (nI 0), .int (nI 0), .int (nI 0), .int (nI 0), .int (nI 0), .int (nI 0), .null, .null, .null, .null, .null, .null, .null, .null, .null, .null, .null, .int (nI 0), .int (nI 0), .int (nI 0), .int (nI 0)])), (q_1, .inl (k_2, 64, .inl g_43))] H := hP
  have hD : va_D A [(h0, .inr (11, [.null, .null, .null, .null, .null, .null, .null, .null, .int (nI 0), .null, .null, .null, .null, .int (nI 0), .int (nI 0), .int (nI 0), .int (nI 0), .int (nI 0), .int (nI 0), .null, .null, .null, .null, .null, .null, .null, .null, .null, .null, .null, .int (nI 0), .int (nI 0), .int (nI 0), .int (nI 0)])), (q_1, .inl (k_2, 64, .inl g_43))] := hD
  refine lv_dup hx hb d_Mo_init_249 rfl ?_
  refine lv_bipush (v := (nI 41)) hx hb d_Mo_init_250 (by decide +kernel) ?_
  refine lv_ldc (v := (-1474664885)) hx hb hown (hts _ m_372) d_Mo_init_252 ?_
  refine kv_iast hx hb hK hP hD hS 1 0 rfl rfl (by omega) (by omega) d_Mo_init_254 (fun H locs g_44 _ hP hD hS => ?_)
  have hP : va_P (dC, dI) CL [(h0, .inr (11, [.null, .null, .null, .null, .null, .null, .null, .null, .int (nI 0), .null, .null, .null, .null, .int (nI 0), .int (nI 0), .int (nI 0), .int (nI 0), .int (nI 0), .int (nI 0), .null, .null, .null, .null, .null, .null, .null, .null, .null, .null, .null, .int (nI 0), .int (nI 0), .int (nI 0), .int (nI 0)])), (q_1, .inl (k_2, 64, .inl g_44))] H := hP
  have hD : va_D A [(h0, .inr (11, [.null, .null, .null, .null, .null, .null, .null, .null, .int (nI 0), .null, .null, .null, .null, .int (nI 0), .int (nI 0), .int (nI 0), .int (nI 0), .int (nI 0), .int (nI 0), .null, .null, .null, .null, .null, .null, .null, .null, .null, .null, .null, .int (nI 0), .int (nI 0), .int (nI 0), .int (nI 0)])), (q_1, .inl (k_2, 64, .inl g_44))] := hD
  refine lv_dup hx hb d_Mo_init_255 rfl ?_
  refine lv_bipush (v := (nI 42)) hx hb d_Mo_init_256 (by decide +kernel) ?_
  refine lv_ldc (v := (-1035236496)) hx hb hown (hts _ m_373) d_Mo_init_258 ?_
  refine kv_iast hx hb hK hP hD hS 1 0 rfl rfl (by omega) (by omega) d_Mo_init_260 (fun H locs g_45 _ hP hD hS => ?_)
  have hP : va_P (dC, dI) CL [(h0, .inr (11, [.null, .null, .null, .null, .null, .null, .null, .null, .int (nI 0), .null, .null, .null, .null, .int (nI 0), .int (nI 0), .int (nI 0), .int (nI 0), .int (nI 0), .int (nI 0), .null, .null, .null, .null, .null, .null, .null, .null, .null, .null, .null, .int (nI 0), .int (nI 0), .int (nI 0), .int (nI 0)])), (q_1, .inl (k_2, 64, .inl g_45))] H := hP
  have hD : va_D A [(h0, .inr (11, [.null, .null, .null, .null, .null, .null, .null, .null, .int (nI 0), .null, .null, .null, .null, .int (nI 0), .int (nI 0), .int (nI 0), .int (nI 0), .int (nI 0), .int (nI 0), .null, .null, .null, .null, .null, .null, .null, .null, .null, .null, .null, .int (nI 0), .int (nI 0), .int (nI 0), .int (nI 0)])), (q_1, .inl (k_2, 64, .inl g_45))] := hD
  refine lv_dup hx hb d_Mo_init_261 rfl ?_
  refine lv_bipush (v := (nI 43)) hx hb d_Mo_init_262 (by decide +kernel) ?_
  refine lv_ldc (v := (-949202525)) hx hb hown (hts _ m_374) d_Mo_init_264 ?_
  refine kv_iast hx hb hK hP hD hS 1 0 rfl rfl (by omega) (by omega) d_Mo_init_266 (fun H locs g_46 _ hP hD hS => ?_)
  have hP : va_P (dC, dI) CL [(h0, .inr (11, [.null, .null, .null, .null, .null, .null, .null, .null, .int (nI 0), .null, .null, .null, .null, .int (nI 0), .int (nI 0), .int (nI 0), .int (nI 0), .int (nI 0), .int (nI 0), .null, .null, .null, .null, .null, .null, .null, .null, .null, .null, .null, .int (nI 0), .int (nI 0), .int (nI 0), .int (nI 0)])), (q_1, .inl (k_2, 64, .inl g_46))] H := hP
  have hD : va_D A [(h0, .inr (11, [.null, .null, .null, .null, .null, .null, .null, .null, .int (nI 0), .null, .null, .null, .null, .int (nI 0), .int (nI 0), .int (nI 0), .int (nI 0), .int (nI 0), .int (nI 0), .null, .null, .null, .null, .null, .null, .null, .null, .null, .null, .null, .int (nI 0), .int (nI 0), .int (nI 0), .int (nI 0)])), (q_1, .inl (k_2, 64, .inl g_46))] := hD
  refine lv_dup hx hb d_Mo_init_267 rfl ?_
  refine lv_bipush (v := (nI 44)) hx hb d_Mo_init_268 (by decide +kernel) ?_
  refine lv_ldc (v := (-778901479)) hx hb hown (hts _ m_375) d_Mo_init_270 ?_
  refine kv_iast hx hb hK hP hD hS 1 0 rfl rfl (by omega) (by omega) d_Mo_init_272 (fun H locs g_47 _ hP hD hS => ?_)
  have hP : va_P (dC, dI) CL [(h0, .inr (11, [.null, .null, .null, .null, .null, .null, .null, .null, .int (nI 0), .null, .null, .null, .null, .int (nI 0), .int (nI 0), .int (nI 0), .int (nI 0), .int (nI 0), .int (nI 0), .null, .null, .null, .null, .null, .null, .null, .null, .null, .null, .null, .int (nI 0), .int (nI 0), .int (nI 0), .int (nI 0)])), (q_1, .inl (k_2, 64, .inl g_47))] H := hP
  have hD : va_D A [(h0, .inr (11, [.null, .null, .null, .null, .null, .null, .null, .null, .int (nI 0), .null, .null, .null, .null, .int (nI 0), .int (nI 0), .int (nI 0), .int (nI 0), .int (nI 0), .int (nI 0), .null, .null, .null, .null, .null, .null, .null, .null, .null, .null, .null, .int (nI 0), .int (nI 0), .int (nI 0), .int (nI 0)])), (q_1, .inl (k_2, 64, .inl g_47))] := hD
  refine lv_dup hx hb d_Mo_init_273 rfl ?_
  refine lv_bipush (v := (nI 45)) hx hb d_Mo_init_274 (by decide +kernel) ?_
  refine lv_ldc (v := (-694614492)) hx hb hown (hts _ m_376) d_Mo_init_276 ?_
  refine kv_iast hx hb hK hP hD hS 1 0 rfl rfl (by omega) (by omega) d_Mo_init_278 (fun H locs g_48 _ hP hD hS => ?_)
  have hP : va_P (dC, dI) CL [(h0, .inr (11, [.null, .null, .null, .null, .null, .null, .null, .null, .int (nI 0), .null, .null, .null, .null, .int (nI 0), .int (nI 0), .int (nI 0), .int (nI 0), .int (nI 0), .int (nI 0), .null, .null, .null, .null, .null, .null, .null, .null, .null, .null, .null, .int (nI 0), .int (nI 0), .int (nI 0), .int (nI 0)])), (q_1, .inl (k_2, 64, .inl g_48))] H := hP
  have hD : va_D A [(h0, .inr (11, [.null, .null, .null, .null, .null, .null, .null, .null, .int (nI 0), .null, .null, .null, .null, .int (nI 0), .int (nI 0), .int (nI 0), .int (nI 0), .int (nI 0), .int (nI 0), .null, .null, .null, .null, .null, .null, .null, .null, .null, .null, .null, .int (nI 0), .int (nI 0), .int (nI 0), .int (nI 0)])), (q_1, .inl (k_2, 64, .inl g_48))] := hD
  refine lv_dup hx hb d_Mo_init_279 rfl ?_
  refine lv_bipush (v := (nI 46)) hx hb d_Mo_init_280 (by decide +kernel) ?_
  refine lv_ldc (v := (-200395387)) hx hb hown (hts _ m_377) d_Mo_init_282 ?_
  refine kv_iast hx hb hK hP hD hS 1 0 rfl rfl (by omega) (by omega) d_Mo_init_284 (fun H locs g_49 _ hP hD hS => ?_)
  have hP : va_P (dC, dI) CL [(h0, .inr (11, [.null, .null, .null, .null, .null, .null, .null, .null, .int (nI 0), .null, .null, .null, .null, .int (nI 0), .int (nI 0), .int (nI 0), .int (nI 0), .int (nI 0), .int (nI 0), .null, .null, .null, .null, .null, .null, .null, .null, .null, .null, .null, .int (nI 0), .int (nI 0), .int (nI 0), .int (nI 0)])), (q_1, .inl (k_2, 64, .inl g_49))] H := hP
  have hD : va_D A [(h0, .inr (11, [.null, .null, .null, .null, .null, .null, .null, .null, .int (nI 0), .null, .null, .null, .null, .int (nI 0), .int (nI 0), .int (nI 0), .int (nI 0), .int (nI 0), .int (nI 0), .null, .null, .null, .null, .null, .null, .null, .null, .null, .null, .null, .int (nI 0), .int (nI 0), .int (nI 0), .int (nI 0)])), (q_1, .inl (k_2, 64, .inl g_49))] := hD
  refine lv_dup hx hb d_Mo_init_285 rfl ?_
  refine lv_bipush (v := (nI 47)) hx hb d_Mo_init_286 (by decide +kernel) ?_
  refine lv_ldc (v := (275423344)) hx hb hown (hts _ m_378) d_Mo_init_288 ?_
  refine ki (v := nI 275423344) (by decide) ?_
  refine kv_iast hx hb hK hP hD hS 1 0 rfl rfl (by omega) (by omega) d_Mo_init_290 (fun H locs g_50 _ hP hD hS => ?_)
  have hP : va_P (dC, dI) CL [(h0, .inr (11, [.null, .null, .null, .null, .null, .null, .null, .null, .int (nI 0), .null, .null, .null, .null, .int (nI 0), .int (nI 0), .int (nI 0), .int (nI 0), .int (nI 0), .int (nI 0), .null, .null, .null, .null, .null, .null, .null, .null, .null, .null, .null, .int (nI 0), .int (nI 0), .int (nI 0), .int (nI 0)])), (q_1, .inl (k_2, 64, .inl g_50))] H := hP
  have hD : va_D A [(h0, .inr (11, [.null, .null, .null, .null, .null, .null, .null, .null, .int (nI 0), .null, .null, .null, .null, .int (nI 0), .int (nI 0), .int (nI 0), .int (nI 0), .int (nI 0), .int (nI 0), .null, .null, .null, .null, .null, .null, .null, .null, .null, .null, .null, .int (nI 0), .int (nI 0), .int (nI 0), .int (nI 0)])), (q_1, .inl (k_2, 64, .inl g_50))] := hD
  refine lv_dup hx hb d_Mo_init_291 rfl ?_
  refine lv_bipush (v := (nI 48)) hx hb d_Mo_init_292 (by decide +kernel) ?_
  refine lv_ldc (v := (430227734)) hx hb hown (hts _ m_379) d_Mo_init_294 ?_
  refine ki (v := nI 430227734) (by decide) ?_
  refine kv_iast hx hb hK hP hD hS 1 0 rfl rfl (by omega) (by omega) d_Mo_init_296 (fun H locs g_51 _ hP hD hS => ?_)
  have hP : va_P (dC, dI) CL [(h0, .inr (11, [.null, .null, .null, .null, .null, .null, .null, .null, .int (nI 0), .null, .null, .null, .null, .int (nI 0), .int (nI 0), .int (nI 0), .int (nI 0), .int (nI 0), .int (nI 0), .null, .null, .null, .null, .null, .null, .null, .null, .null, .null, .null, .int (nI 0), .int (nI 0), .int (nI 0), .int (nI 0)])), (q_1, .inl (k_2, 64, .inl g_51))] H := hP
  have hD : va_D A [(h0, .inr (11, [.null, .null, .null, .null, .null, .null, .null, .null, .int (nI 0), .null, .null, .null, .null, .int (nI 0), .int (nI 0), .int (nI 0), .int (nI 0), .int (nI 0), .int (nI 0), .null, .null, .null, .null, .null, .null, .null, .null, .null, .null, .null, .int (nI 0), .int (nI 0), .int (nI 0), .int (nI 0)])), (q_1, .inl (k_2, 64, .inl g_51))] := hD
  refine lv_dup hx hb d_Mo_init_297 rfl ?_
  refine lv_bipush (v := (nI 49)) hx hb d_Mo_init_298 (by decide +kernel) ?_
  refine lv_ldc (v := (506948616)) hx hb hown (hts _ m_380) d_Mo_init_300 ?_
  refine ki (v := nI 506948616) (by decide) ?_
  refine kv_iast hx hb hK hP hD hS 1 0 rfl rfl (by omega) (by omega) d_Mo_init_302 (fun H locs g_52 _ hP hD hS => ?_)
  have hP : va_P (dC, dI) CL [(h0, .inr (11, [.null, .null, .null, .null, .null, .null, .null, .null, .int (nI 0), .null, .null, .null, .null, .int (nI 0), .int (nI 0), .int (nI 0), .int (nI 0), .int (nI 0), .int (nI 0), .null, .null, .null, .null, .null, .null, .null, .null, .null, .null, .null, .int (nI 0), .int (nI 0), .int (nI 0), .int (nI 0)])), (q_1, .inl (k_2, 64, .inl g_52))] H := hP
  have hD : va_D A [(h0, .inr (11, [.null, .null, .null, .null, .null, .null, .null, .null, .int (nI 0), .null, .null, .null, .null, .int (nI 0), .int (nI 0), .int (nI 0), .int (nI 0), .int (nI 0), .int (nI 0), .null, .null, .null, .null, .null, .null, .null, .null, .null, .null, .null, .int (nI 0), .int (nI 0), .int (nI 0), .int (nI 0)])), (q_1, .inl (k_2, 64, .inl g_52))] := hD
  refine lv_dup hx hb d_Mo_init_303 rfl ?_
  refine lv_bipush (v := (nI 50)) hx hb d_Mo_init_304 (by decide +kernel) ?_
  refine lv_ldc (v := (659060556)) hx hb hown (hts _ m_381) d_Mo_init_306 ?_
  refine ki (v := nI 659060556) (by decide) ?_
  refine kv_iast hx hb hK hP hD hS 1 0 rfl rfl (by omega) (by omega) d_Mo_init_308 (fun H locs g_53 _ hP hD hS => ?_)
  have hP : va_P (dC, dI) CL [(h0, .inr (11, [.null, .null, .null, .null, .null, .null, .null, .null, .int (nI 0), .null, .null, .null, .null, .int (nI 0), .int (nI 0), .int (nI 0), .int (nI 0), .int (nI 0), .int (nI 0), .null, .null, .null, .null, .null, .null, .null, .null, .null, .null, .null, .int (nI 0), .int (nI 0), .int (nI 0), .int (nI 0)])), (q_1, .inl (k_2, 64, .inl g_53))] H := hP
  have hD : va_D A [(h0, .inr (11, [.null, .null, .null, .null, .null, .null, .null, .null, .int (nI 0), .null, .null, .null, .null, .int (nI 0), .int (nI 0), .int (nI 0), .int (nI 0), .int (nI 0), .int (nI 0), .null, .null, .null, .null, .null, .null, .null, .null, .null, .null, .null, .int (nI 0), .int (nI 0), .int (nI 0), .int (nI 0)])), (q_1, .inl (k_2, 64, .inl g_53))] := hD
  refine lv_dup hx hb d_Mo_init_309 rfl ?_
  refine lv_bipush (v := (nI 51)) hx hb d_Mo_init_310 (by decide +kernel) ?_
  refine lv_ldc (v := (883997877)) hx hb hown (hts _ m_382) d_Mo_init_312 ?_
  refine ki (v := nI 883997877) (by decide) ?_
  refine kv_iast hx hb hK hP hD hS 1 0 rfl rfl (by omega) (by omega) d_Mo_init_314 (fun H locs g_54 _ hP hD hS => ?_)
  have hP : va_P (dC, dI) CL [(h0, .inr (11, [.null, .null, .null, .null, .null, .null, .null, .null, .int (nI 0), .null, .null, .null, .null, .int (nI 0), .int (nI 0), .int (nI 0), .int (nI 0), .int (nI 0), .int (nI 0), .null, .null, .null, .null, .null, .null, .null, .null, .null, .null, .null, .int (nI 0), .int (nI 0), .int (nI 0), .int (nI 0)])), (q_1, .inl (k_2, 64, .inl g_54))] H := hP
  have hD : va_D A [(h0, .inr (11, [.null, .null, .null, .null, .null, .null, .null, .null, .int (nI 0), .null, .null, .null, .null, .int (nI 0), .int (nI 0), .int (nI 0), .int (nI 0), .int (nI 0), .int (nI 0), .null, .null, .null, .null, .null, .null, .null, .null, .null, .null, .null, .int (nI 0), .int (nI 0), .int (nI 0), .int (nI 0)])), (q_1, .inl (k_2, 64, .inl g_54))] := hD
  refine lv_dup hx hb d_Mo_init_315 rfl ?_
  refine lv_bipush (v := (nI 52)) hx hb d_Mo_init_316 (by decide +kernel) ?_
  refine lv_ldc (v := (958139571)) hx hb hown (hts _ m_383) d_Mo_init_318 ?_
  refine ki (v := nI 958139571) (by decide) ?_
  refine kv_iast hx hb hK hP hD hS 1 0 rfl rfl (by omega) (by omega) d_Mo_init_320 (fun H locs g_55 _ hP hD hS => ?_)
  have hP : va_P (dC, dI) CL [(h0, .inr (11, [.null, .null, .null, .null, .null, .null, .null, .null, .int (nI 0), .null, .null, .null, .null, .int (nI 0), .int (nI 0), .int (nI 0), .int (nI 0), .int (nI 0), .int (nI 0), .null, .null, .null, .null, .null, .null, .null, .null, .null, .null, .null, .int (nI 0), .int (nI 0), .int (nI 0), .int (nI 0)])), (q_1, .inl (k_2, 64, .inl g_55))] H := hP
  have hD : va_D A [(h0, .inr (11, [.null, .null, .null, .null, .null, .null, .null, .null, .int (nI 0), .null, .null, .null, .null, .int (nI 0), .int (nI 0), .int (nI 0), .int (nI 0), .int (nI 0), .int (nI 0), .null, .null, .null, .null, .null, .null, .null, .null, .null, .null, .null, .int (nI 0), .int (nI 0), .int (nI 0), .int (nI 0)])), (q_1, .inl (k_2, 64, .inl g_55))] := hD
  refine lv_dup hx hb d_Mo_init_321 rfl ?_
  refine lv_bipush (v := (nI 53)) hx hb d_Mo_init_322 (by decide +kernel) ?_
  refine lv_ldc (v := (1322822218)) hx hb hown (hts _ m_384) d_Mo_init_324 ?_
  refine ki (v := nI 1322822218) (by decide) ?_
  refine kv_iast hx hb hK hP hD hS 1 0 rfl rfl (by omega) (by omega) d_Mo_init_326 (fun H locs g_56 _ hP hD hS => ?_)
  have hP : va_P (dC, dI) CL [(h0, .inr (11, [.null, .null, .null, .null, .null, .null, .null, .null, .int (nI 0), .null, .null, .null, .null, .int (nI 0), .int (nI 0), .int (nI 0), .int (nI 0), .int (nI 0), .int (nI 0), .null, .null, .null, .null, .null, .null, .null, .null, .null, .null, .null, .int (nI 0), .int (nI 0), .int (nI 0), .int (nI 0)])), (q_1, .inl (k_2, 64, .inl g_56))] H := hP
  have hD : va_D A [(h0, .inr (11, [.null, .null, .null, .null, .null, .null, .null, .null, .int (nI 0), .null, .null, .null, .null, .int (nI 0), .int (nI 0), .int (nI 0), .int (nI 0), .int (nI 0), .int (nI 0), .null, .null, .null, .null, .null, .null, .null, .null, .null, .null, .null, .int (nI 0), .int (nI 0), .int (nI 0), .int (nI 0)])), (q_1, .inl (k_2, 64, .inl g_56))] := hD
  refine lv_dup hx hb d_Mo_init_327 rfl ?_
  refine lv_bipush (v := (nI 54)) hx hb d_Mo_init_328 (by decide +kernel) ?_
  refine lv_ldc (v := (1537002063)) hx hb hown (hts _ m_385) d_Mo_init_330 ?_
  refine ki (v := nI 1537002063) (by decide) ?_
  refine kv_iast hx hb hK hP hD hS 1 0 rfl rfl (by omega) (by omega) d_Mo_init_332 (fun H locs g_57 _ hP hD hS => ?_)
  have hP : va_P (dC, dI) CL [(h0, .inr (11, [.null, .null, .null, .null, .null, .null, .null, .null, .int (nI 0), .null, .null, .null, .null, .int (nI 0), .int (nI 0), .int (nI 0), .int (nI 0), .int (nI 0), .int (nI 0), .null, .null, .null, .null, .null, .null, .null, .null, .null, .null, .null, .int (nI 0), .int (nI 0), .int (nI 0), .int (nI 0)])), (q_1, .inl (k_2, 64, .inl g_57))] H := hP
  have hD : va_D A [(h0, .inr (11, [.null, .null, .null, .null, .null, .null, .null, .null, .int (nI 0), .null, .null, .null, .null, .int (nI 0), .int (nI 0), .int (nI 0), .int (nI 0), .int (nI 0), .int (nI 0), .null, .null, .null, .null, .null, .null, .null, .null, .null, .null, .null, .int (nI 0), .int (nI 0), .int (nI 0), .int (nI 0)])), (q_1, .inl (k_2, 64, .inl g_57))] := hD
  refine lv_dup hx hb d_Mo_init_333 rfl ?_
  refine lv_bipush (v := (nI 55)) hx hb d_Mo_init_334 (by decide +kernel) ?_
  refine lv_ldc (v := (1747873779)) hx hb hown (hts _ m_386) d_Mo_init_336 ?_
  refine ki (v := nI 1747873779) (by decide) ?_
  refine kv_iast hx hb hK hP hD hS 1 0 rfl rfl (by omega) (by omega) d_Mo_init_338 (fun H locs g_58 _ hP hD hS => ?_)
  have hP : va_P (dC, dI) CL [(h0, .inr (11, [.null, .null, .null, .null, .null, .null, .null, .null, .int (nI 0), .null, .null, .null, .null, .int (nI 0), .int (nI 0), .int (nI 0), .int (nI 0), .int (nI 0), .int (nI 0), .null, .null, .null, .null, .null, .null, .null, .null, .null, .null, .null, .int (nI 0), .int (nI 0), .int (nI 0), .int (nI 0)])), (q_1, .inl (k_2, 64, .inl g_58))] H := hP
  have hD : va_D A [(h0, .inr (11, [.null, .null, .null, .null, .null, .null, .null, .null, .int (nI 0), .null, .null, .null, .null, .int (nI 0), .int (nI 0), .int (nI 0), .int (nI 0), .int (nI 0), .int (nI 0), .null, .null, .null, .null, .null, .null, .null, .null, .null, .null, .null, .int (nI 0), .int (nI 0), .int (nI 0), .int (nI 0)])), (q_1, .inl (k_2, 64, .inl g_58))] := hD
  refine lv_dup hx hb d_Mo_init_339 rfl ?_
  refine lv_bipush (v := (nI 56)) hx hb d_Mo_init_340 (by decide +kernel) ?_
  refine lv_ldc (v := (1955562222)) hx hb hown (hts _ m_387) d_Mo_init_342 ?_
  refine ki (v := nI 1955562222) (by decide) ?_
  refine kv_iast hx hb hK hP hD hS 1 0 rfl rfl (by omega) (by omega) d_Mo_init_344 (fun H locs g_59 _ hP hD hS => ?_)
  have hP : va_P (dC, dI) CL [(h0, .inr (11, [.null, .null, .null, .null, .null, .null, .null, .null, .int (nI 0), .null, .null, .null, .null, .int (nI 0), .int (nI 0), .int (nI 0), .int (nI 0), .int (nI 0), .int (nI 0), .null, .null, .null, .null, .null, .null, .null, .null, .null, .null, .null, .int (nI 0), .int (nI 0), .int (nI 0), .int (nI 0)])), (q_1, .inl (k_2, 64, .inl g_59))] H := hP
  have hD : va_D A [(h0, .inr (11, [.null, .null, .null, .null, .null, .null, .null, .null, .int (nI 0), .null, .null, .null, .null, .int (nI 0), .int (nI 0), .int (nI 0), .int (nI 0), .int (nI 0), .int (nI 0), .null, .null, .null, .null, .null, .null, .null, .null, .null, .null, .null, .int (nI 0), .int (nI 0), .int (nI 0), .int (nI 0)])), (q_1, .inl (k_2, 64, .inl g_59))] := hD
  refine lv_dup hx hb d_Mo_init_345 rfl ?_
  refine lv_bipush (v := (nI 57)) hx hb d_Mo_init_346 (by decide +kernel) ?_
  refine lv_ldc (v := (2024104815)) hx hb hown (hts _ m_388) d_Mo_init_348 ?_
  refine ki (v := nI 2024104815) (by decide) ?_
  refine kv_iast hx hb hK hP hD hS 1 0 rfl rfl (by omega) (by omega) d_Mo_init_350 (fun H locs g_60 _ hP hD hS => ?_)
  have hP : va_P (dC, dI) CL [(h0, .inr (11, [.null, .null, .null, .null, .null, .null, .null, .null, .int (nI 0), .null, .null, .null, .null, .int (nI 0), .int (nI 0), .int (nI 0), .int (nI 0), .int (nI 0), .int (nI 0), .null, .null, .null, .null, .null, .null, .null, .null, .null, .null, .null, .int (nI 0), .int (nI 0), .int (nI 0), .int (nI 0)])), (q_1, .inl (k_2, 64, .inl g_60))] H := hP
  have hD : va_D A [(h0, .inr (11, [.null, .null, .null, .null, .null, .null, .null, .null, .int (nI 0), .null, .null, .null, .null, .int (nI 0), .int (nI 0), .int (nI 0), .int (nI 0), .int (nI 0), .int (nI 0), .null, .null, .null, .null, .null, .null, .null, .null, .null, .null, .null, .int (nI 0), .int (nI 0), .int (nI 0), .int (nI 0)])), (q_1, .inl (k_2, 64, .inl g_60))] := hD
  refine lv_dup hx hb d_Mo_init_351 rfl ?_
  refine lv_bipush (v := (nI 58)) hx hb d_Mo_init_352 (by decide +kernel) ?_
  refine lv_ldc (v := (-2067236844)) hx hb hown (hts _ m_389) d_Mo_init_354 ?_
  refine kv_iast hx hb hK hP hD hS 1 0 rfl rfl (by omega) (by omega) d_Mo_init_356 (fun H locs g_61 _ hP hD hS => ?_)
  have hP : va_P (dC, dI) CL [(h0, .inr (11, [.null, .null, .null, .null, .null, .null, .null, .null, .int (nI 0), .null, .null, .null, .null, .int (nI 0), .int (nI 0), .int (nI 0), .int (nI 0), .int (nI 0), .int (nI 0), .null, .null, .null, .null, .null, .null, .null, .null, .null, .null, .null, .int (nI 0), .int (nI 0), .int (nI 0), .int (nI 0)])), (q_1, .inl (k_2, 64, .inl g_61))] H := hP
  have hD : va_D A [(h0, .inr (11, [.null, .null, .null, .null, .null, .null, .null, .null, .int (nI 0), .null, .null, .null, .null, .int (nI 0), .int (nI 0), .int (nI 0), .int (nI 0), .int (nI 0), .int (nI 0), .null, .null, .null, .null, .null, .null, .null, .null, .null, .null, .null, .int (nI 0), .int (nI 0), .int (nI 0), .int (nI 0)])), (q_1, .inl (k_2, 64, .inl g_61))] := hD
  refine lv_dup hx hb d_Mo_init_357 rfl ?_
  refine lv_bipush (v := (nI 59)) hx hb d_Mo_init_358 (by decide +kernel) ?_
  refine lv_ldc (v := (-1933114872)) hx hb hown (hts _ m_390) d_Mo_init_360 ?_
  refine kv_iast hx hb hK hP hD hS 1 0 rfl rfl (by omega) (by omega) d_Mo_init_362 (fun H locs g_62 _ hP hD hS => ?_)
  have hP : va_P (dC, dI) CL [(h0, .inr (11, [.null, .null, .null, .null, .null, .null, .null, .null, .int (nI 0), .null, .null, .null, .null, .int (nI 0), .int (nI 0), .int (nI 0), .int (nI 0), .int (nI 0), .int (nI 0), .null, .null, .null, .null, .null, .null, .null, .null, .null, .null, .null, .int (nI 0), .int (nI 0), .int (nI 0), .int (nI 0)])), (q_1, .inl (k_2, 64, .inl g_62))] H := hP
  have hD : va_D A [(h0, .inr (11, [.null, .null, .null, .null, .null, .null, .null, .null, .int (nI 0), .null, .null, .null, .null, .int (nI 0), .int (nI 0), .int (nI 0), .int (nI 0), .int (nI 0), .int (nI 0), .null, .null, .null, .null, .null, .null, .null, .null, .null, .null, .null, .int (nI 0), .int (nI 0), .int (nI 0), .int (nI 0)])), (q_1, .inl (k_2, 64, .inl g_62))] := hD
  refine lv_dup hx hb d_Mo_init_363 rfl ?_
  refine lv_bipush (v := (nI 60)) hx hb d_Mo_init_364 (by decide +kernel) ?_
  refine lv_ldc (v := (-1866530822)) hx hb hown (hts _ m_391) d_Mo_init_366 ?_
  refine kv_iast hx hb hK hP hD hS 1 0 rfl rfl (by omega) (by omega) d_Mo_init_368 (fun H locs g_63 _ hP hD hS => ?_)
  have hP : va_P (dC, dI) CL [(h0, .inr (11, [.null, .null, .null, .null, .null, .null, .null, .null, .int (nI 0), .null, .null, .null, .null, .int (nI 0), .int (nI 0), .int (nI 0), .int (nI 0), .int (nI 0), .int (nI 0), .null, .null, .null, .null, .null, .null, .null, .null, .null, .null, .null, .int (nI 0), .int (nI 0), .int (nI 0), .int (nI 0)])), (q_1, .inl (k_2, 64, .inl g_63))] H := hP
  have hD : va_D A [(h0, .inr (11, [.null, .null, .null, .null, .null, .null, .null, .null, .int (nI 0), .null, .null, .null, .null, .int (nI 0), .int (nI 0), .int (nI 0), .int (nI 0), .int (nI 0), .int (nI 0), .null, .null, .null, .null, .null, .null, .null, .null, .null, .null, .null, .int (nI 0), .int (nI 0), .int (nI 0), .int (nI 0)])), (q_1, .inl (k_2, 64, .inl g_63))] := hD
  refine lv_dup hx hb d_Mo_init_369 rfl ?_
  refine lv_bipush (v := (nI 61)) hx hb d_Mo_init_370 (by decide +kernel) ?_
  refine lv_ldc (v := (-1538233109)) hx hb hown (hts _ m_392) d_Mo_init_372 ?_
  refine kv_iast hx hb hK hP hD hS 1 0 rfl rfl (by omega) (by omega) d_Mo_init_374 (fun H locs g_64 _ hP hD hS => ?_)
  have hP : va_P (dC, dI) CL [(h0, .inr (11, [.null, .null, .null, .null, .null, .null, .null, .null, .int (nI 0), .null, .null, .null, .null, .int (nI 0), .int (nI 0), .int (nI 0), .int (nI 0), .int (nI 0), .int (nI 0), .null, .null, .null, .null, .null, .null, .null, .null, .null, .null, .null, .int (nI 0), .int (nI 0), .int (nI 0), .int (nI 0)])), (q_1, .inl (k_2, 64, .inl g_64))] H := hP
  have hD : va_D A [(h0, .inr (11, [.null, .null, .null, .null, .null, .null, .null, .null, .int (nI 0), .null, .null, .null, .null, .int (nI 0), .int (nI 0), .int (nI 0), .int (nI 0), .int (nI 0), .int (nI 0), .null, .null, .null, .null, .null, .null, .null, .null, .null, .null, .null, .int (nI 0), .int (nI 0), .int (nI 0), .int (nI 0)])), (q_1, .inl (k_2, 64, .inl g_64))] := hD
  refine lv_dup hx hb d_Mo_init_375 rfl ?_
  refine lv_bipush (v := (nI 62)) hx hb d_Mo_init_376 (by decide +kernel) ?_
  refine lv_ldc (v := (-1090935817)) hx hb hown (hts _ m_393) d_Mo_init_378 ?_
  refine kv_iast hx hb hK hP hD hS 1 0 rfl rfl (by omega) (by omega) d_Mo_init_380 (fun H locs g_65 _ hP hD hS => ?_)
  have hP : va_P (dC, dI) CL [(h0, .inr (11, [.null, .null, .null, .null, .null, .null, .null, .null, .int (nI 0), .null, .null, .null, .null, .int (nI 0), .int (nI 0), .int (nI 0), .int (nI 0), .int (nI 0), .int (nI 0), .null, .null, .null, .null, .null, .null, .null, .null, .null, .null, .null, .int (nI 0), .int (nI 0), .int (nI 0), .int (nI 0)])), (q_1, .inl (k_2, 64, .inl g_65))] H := hP
  have hD : va_D A [(h0, .inr (11, [.null, .null, .null, .null, .null, .null, .null, .null, .int (nI 0), .null, .null, .null, .null, .int (nI 0), .int (nI 0), .int (nI 0), .int (nI 0), .int (nI 0), .int (nI 0), .null, .null, .null, .null, .null, .null, .null, .null, .null, .null, .null, .int (nI 0), .int (nI 0), .int (nI 0), .int (nI 0)])), (q_1, .inl (k_2, 64, .inl g_65))] := hD
  refine lv_dup hx hb d_Mo_init_381 rfl ?_
  refine lv_bipush (v := (nI 63)) hx hb d_Mo_init_382 (by decide +kernel) ?_
  refine lv_ldc (v := (-965641998)) hx hb hown (hts _ m_394) d_Mo_init_384 ?_
  refine kv_iast hx hb hK hP hD hS 1 0 rfl rfl (by omega) (by omega) d_Mo_init_386 (fun H locs g_66 _ hP hD hS => ?_)
  have hP : va_P (dC, dI) CL [(h0, .inr (11, [.null, .null, .null, .null, .null, .null, .null, .null, .int (nI 0), .null, .null, .null, .null, .int (nI 0), .int (nI 0), .int (nI 0), .int (nI 0), .int (nI 0), .int (nI 0), .null, .null, .null, .null, .null, .null, .null, .null, .null, .null, .null, .int (nI 0), .int (nI 0), .int (nI 0), .int (nI 0)])), (q_1, .inl (k_2, 64, .inl g_66))] H := hP
  have hD : va_D A [(h0, .inr (11, [.null, .null, .null, .null, .null, .null, .null, .null, .int (nI 0), .null, .null, .null, .null, .int (nI 0), .int (nI 0), .int (nI 0), .int (nI 0), .int (nI 0), .int (nI 0), .null, .null, .null, .null, .null, .null, .null, .null, .null, .null, .null, .int (nI 0), .int (nI 0), .int (nI 0), .int (nI 0)])), (q_1, .inl (k_2, 64, .inl g_66))] := hD
  refine va_putF (D := (dC, dI)) (ci := 11) (v := .ref q_1) (ty := (.array .int)) (C := R_Mo) (T := F_Mo) (N := 34) hx hb hts i_Mo t_Mo t_Mo_ok n_Mo hown hK hP hD hS 0 rfl rfl 0 (by decide) (hts _ m_286) (fun _ h9 => h9) rfl hin rfl (by decide +kernel) rfl rfl (Nat.le_of_ble_eq_true rfl) d_Mo_init_387 (fun H locs hP hD hS => ?_)
  have hP : va_P (dC, dI) CL [(h0, .inr (11, [.ref q_1, .null, .null, .null, .null, .null, .null, .null, .int (nI 0), .null, .null, .null, .null, .int (nI 0), .int (nI 0), .int (nI 0), .int (nI 0), .int (nI 0), .int (nI 0), .null, .null, .null, .null, .null, .null, .null, .null, .null, .null, .null, .int (nI 0), .int (nI 0), .int (nI 0), .int (nI 0)])), (q_1, .inl (k_2, 64, .inl g_66))] H := hP
  have hD : va_D A [(h0, .inr (11, [.ref q_1, .null, .null, .null, .null, .null, .null, .null, .int (nI 0), .null, .null, .null, .null, .int (nI 0), .int (nI 0), .int (nI 0), .int (nI 0), .int (nI 0), .int (nI 0), .null, .null, .null, .null, .null, .null, .null, .null, .null, .null, .null, .int (nI 0), .int (nI 0), .int (nI 0), .int (nI 0)])), (q_1, .inl (k_2, 64, .inl g_66))] := hD
  exact c_Mo_init_at390 dC dI h0 hx hb hr hml hown hts hlocks hin hAe hA hZ hN hQg q_1 k_2 g_66 hK  _ _ _ hP hD hS hl
