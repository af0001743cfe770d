/-- the class of the arrays of arrays is there -/
def va_AOA (t : FieldType) (U : State) : Prop := (Cond.arrayOver (.array t)).before #[] U = true
theorem va_AOA.of {t : FieldType} {A : Array Value} {U : State} (h : (Cond.arrayOver (.array t)).before A U = true) : va_AOA t U := h
theorem va_AOA.use {t : FieldType} {A : Array Value} {U : State} (h : va_AOA t U) : (Cond.arrayOver (.array t)).before A U = true := h
/-- tables that are alike have the arrays of arrays alike -/
theorem va_AOA.moved {t : FieldType} {u U : State} (hvm : u.vm.Alike U.vm) (h : va_AOA t u) : va_AOA t U := by
  unfold va_AOA Cond.before Cond.holds at h ⊢
  simp only [Cond.value, beq_iff_eq] at h ⊢
  rw [hvm.findClass]
  cases hc : u.vm.findClass (FieldType.array t).toString with
  | none => rw [hc] at h; simp at h
  | some comp =>
    rw [hc] at h
    rw [Option.bind_some] at h ⊢
    obtain ⟨i, hi, h2⟩ := Option.bind_eq_some_iff.mp h
    obtain ⟨k, hk, h3⟩ := Option.map_eq_some_iff.mp h2
    obtain ⟨k', hk', he⟩ := hvm.2.2 _ _ hk
    have hi' : (U.vm.classes.findIdx? fun (x : Class) => match x.kind with | .array component _ => component == comp | _ => false) = some i := by
      have e1 := va_idx_bare u.vm comp
      have e2 := va_idx_bare U.vm comp
      have e3 : U.vm.bare = u.vm.bare := by first | exact hvm.bare_eq | exact hvm.bare_eq.symm
      rw [e3] at e2
      exact (e2.symm.trans e1).trans hi
    refine Option.bind_eq_some_iff.mpr ⟨i, hi', Option.map_eq_some_iff.mpr ⟨k', hk', ?_⟩⟩
    rw [he]
    simp only [hvm.findClass]
    exact h3
