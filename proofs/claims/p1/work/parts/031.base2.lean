/-! BASE: words of one list; a method's start and end by pictures; calls with cut and join in one row -/
theorem kg_code {w : Cond} (h : w ∈ AW) : GoodIn AW (w :: AW) := fun x hx => by
  rcases List.mem_cons.mp hx with rfl | hx
  · exact ⟨h, kg_all _ h⟩
  · exact ⟨hx, kg_all _ hx⟩
theorem kg_V {own C : String} {idx : Nat} {y : MethodName} {ws : List Cond} (h1 : Cond.methodLink own idx y ∈ AW) (h2 : Cond.instanceMethod y ∈ AW) (h3 : Cond.selects C y y ∈ AW) (h4 : Cond.initialized C ∈ AW) (h : GoodIn AW ws) : GoodIn AW (wsV own idx C y ws) := fun x hx => by
  unfold wsV at hx
  rcases List.mem_append.mp hx with hx | hx
  · simp only [List.mem_cons, List.not_mem_nil, or_false] at hx
    rcases hx with rfl | rfl | rfl | rfl
    · exact ⟨h1, kg_all _ h1⟩
    · exact ⟨h2, kg_all _ h2⟩
    · exact ⟨h3, kg_all _ h3⟩
    · exact ⟨h4, kg_all _ h4⟩
  · exact h x hx
theorem kg_S {own : String} {idx : Nat} {y : MethodName} {ws : List Cond} (h1 : Cond.methodLink own idx y ∈ AW) (h2 : Cond.static y ∈ AW) (h3 : Cond.initialized y.cls ∈ AW) (h : GoodIn AW ws) : GoodIn AW (va_wsS own idx y ws) := fun x hx => by
  unfold va_wsS at hx
  rcases List.mem_append.mp hx with hx | hx
  · simp only [List.mem_cons, List.not_mem_nil, or_false] at hx
    rcases hx with rfl | rfl | rfl
    · exact ⟨h1, kg_all _ h1⟩
    · exact ⟨h2, kg_all _ h2⟩
    · exact ⟨h3, kg_all _ h3⟩
  · exact h x hx
theorem kw {args : Array Value} {s : State} {c : Cond} (h : ∀ w ∈ c :: AW, w.before args s = true) : ∀ w ∈ AW, w.before args s = true := fun w hw => h w (List.mem_cons_of_mem _ hw)
-- numbers
theorem k_inc (n : Nat) : nI n + Int32.ofInt 1 = nI (n + 1) := nI_1 n
theorem k_dec {n : Nat} (h : 0 < n) : nI n + Int32.ofInt (-1) = nI (n - 1) := sb_m1 h
theorem k_sw (x : Int32) (n : Nat) (hn : n < 2 ^ 31) : (x.toInt < 0 ∨ (n : Int) < x.toInt) ∨ ∃ j : Nat, j ≤ n ∧ x = nI j := by
  rcases (by omega : x.toInt < 0 ∨ 0 ≤ x.toInt) with h | h
  · exact Or.inl (Or.inl h)
  · rcases (by omega : (n : Int) < x.toInt ∨ x.toInt ≤ (n : Int)) with h2 | h2
    · exact Or.inl (Or.inr h2)
    · refine Or.inr ⟨x.toInt.toNat, by omega, ?_⟩
      exact Int32.toInt_inj.mp (by rw [nI_toInt (by omega)]; omega)
theorem k_z {n : Nat} (h : n < 2 ^ 31) : nI n = 0 ↔ n = 0 := by
  have := nI_eq (a := n) (b := 0) h (by decide)
  exact this
section KB
variable {p : Program} {l : Launch} {e : Env} {R : Room} {s : State} {m : MethodId} {args : Array Value} {below : List Frame} {meth : Method} {c : Code} {H : Heap} {locs : List Loc} {cells slots : Nat} {Q : State → Prop}
variable {cc : ByteArray} {pc : Nat} {ls : Array Slot} {rest st0 : List Value} {D : va_G} {cl : List vw_C} {ws : va_W} {tys : List (ClassId × FieldType)} {A : Nat → Prop} {H0 : Heap} {a : Nat}
theorem ki {x v : Int32} (h : x = v) (k : W p l e R s m args below meth c H locs cells slots Q (F0 m pc ls (.int v :: rest))) : W p l e R s m args below meth c H locs cells slots Q (F0 m pc ls (.int x :: rest)) := h ▸ k
theorem kl {x v : Int64} (h : x = v) (k : W p l e R s m args below meth c H locs cells slots Q (F0 m pc ls (.long v :: rest))) : W p l e R s m args below meth c H locs cells slots Q (F0 m pc ls (.long x :: rest)) := h ▸ k
theorem kv_iald (hexec : p.tables.exec = Jvm.exec) (hb : c.code = cc) (hK : va_K D cl tys s) (hP : va_P D cl ws H) (q0 t0 : Nat) {cA : ClassId} {n : Nat} {f : Nat → Int32} (ha : ws[q0]? = some (a, .inl (cA, n, .inl f))) (ht : tys[t0]? = some (cA, .int)) {i : Nat} (hi : i < n) (hn : n < 2 ^ 31) (hdg : decode cc pc = .ok (.iaload, 1))
    (kk : W p l e R s m args below meth c H locs cells slots Q (F0 m (pc + 1) ls (.int (f i) :: rest))) : W p l e R s m args below meth c H locs cells slots Q (F0 m pc ls (.int (nI i) :: .ref a :: rest)) :=
  va_iald hexec hb hK hP q0 t0 ha ht (vp_in_nI hi hn) hdg (by rw [nI_clamp (by omega)]; exact kk)
theorem kv_bald (hexec : p.tables.exec = Jvm.exec) (hb : c.code = cc) (hK : va_K D cl tys s) (hP : va_P D cl ws H) (q0 t0 : Nat) {cA : ClassId} {n : Nat} {f : Nat → Int32} (ha : ws[q0]? = some (a, .inl (cA, n, .inl f))) (ht : tys[t0]? = some (cA, .byte)) {i : Nat} (hi : i < n) (hn : n < 2 ^ 31) (hdg : decode cc pc = .ok (.baload, 1))
    (kk : W p l e R s m args below meth c H locs cells slots Q (F0 m (pc + 1) ls (.int (f i) :: rest))) : W p l e R s m args below meth c H locs cells slots Q (F0 m pc ls (.int (nI i) :: .ref a :: rest)) :=
  va_bald hexec hb hK hP q0 t0 ha ht (vp_in_nI hi hn) hdg (by rw [nI_clamp (by omega)]; exact kk)
theorem kv_zald (hexec : p.tables.exec = Jvm.exec) (hb : c.code = cc) (hK : va_K D cl tys s) (hP : va_P D cl ws H) (q0 t0 : Nat) {cA : ClassId} {n : Nat} {f : Nat → Int32} (ha : ws[q0]? = some (a, .inl (cA, n, .inl f))) (ht : tys[t0]? = some (cA, .boolean)) {i : Nat} (hi : i < n) (hn : n < 2 ^ 31) (hdg : decode cc pc = .ok (.baload, 1))
    (kk : W p l e R s m args below meth c H locs cells slots Q (F0 m (pc + 1) ls (.int (f i) :: rest))) : W p l e R s m args below meth c H locs cells slots Q (F0 m pc ls (.int (nI i) :: .ref a :: rest)) :=
  va_zald hexec hb hK hP q0 t0 ha ht (vp_in_nI hi hn) hdg (by rw [nI_clamp (by omega)]; exact kk)
theorem kv_lald (hexec : p.tables.exec = Jvm.exec) (hb : c.code = cc) (hK : va_K D cl tys s) (hP : va_P D cl ws H) (q0 t0 : Nat) {cA : ClassId} {n : Nat} {f : Nat → Int64} (ha : ws[q0]? = some (a, .inl (cA, n, .inr (.inl f)))) (ht : tys[t0]? = some (cA, .long)) {i : Nat} (hi : i < n) (hn : n < 2 ^ 31) (hdg : decode cc pc = .ok (.laload, 1))
    (kk : W p l e R s m args below meth c H locs cells slots Q (F0 m (pc + 1) ls (.long (f i) :: rest))) : W p l e R s m args below meth c H locs cells slots Q (F0 m pc ls (.int (nI i) :: .ref a :: rest)) :=
  va_lald hexec hb hK hP q0 t0 ha ht (vp_in_nI hi hn) hdg (by rw [nI_clamp (by omega)]; exact kk)
theorem kv_iast (hexec : p.tables.exec = Jvm.exec) (hb : c.code = cc) (hK : va_K D cl tys s) (hP : va_P D cl ws H) (hD : va_D A ws) (hS : va_S A H0 H locs) (q0 t0 : Nat) {cA : ClassId} {n : Nat} {f : Nat → Int32} (ha : ws[q0]? = some (a, .inl (cA, n, .inl f))) (ht : tys[t0]? = some (cA, .int)) {i : Nat} {x : Int32} (hi : i < n) (hn : n < 2 ^ 31) (hdg : decode cc pc = .ok (.iastore, 1))
    (kk : ∀ (H1 : Heap) (locs1 : List Loc) (g : Nat → Int32), g = upd f i x → va_P D cl (ws.set q0 (a, .inl (cA, n, .inl g))) H1 → va_D A (ws.set q0 (a, .inl (cA, n, .inl g))) → va_S A H0 H1 locs1 → W p l e R s m args below meth c H1 locs1 cells slots Q (F0 m (pc + 1) ls rest)) : W p l e R s m args below meth c H locs cells slots Q (F0 m pc ls (.int x :: .int (nI i) :: .ref a :: rest)) :=
  va_iast hexec hb hK hP hD hS q0 t0 ha ht (vp_in_nI hi hn) hdg (fun H1 l1 h1 h2 h3 => kk H1 l1 _ (by rw [nI_clamp (by omega)]) h1 h2 h3)
theorem kv_bast (hexec : p.tables.exec = Jvm.exec) (hb : c.code = cc) (hK : va_K D cl tys s) (hP : va_P D cl ws H) (hD : va_D A ws) (hS : va_S A H0 H locs) (q0 t0 : Nat) {cA : ClassId} {n : Nat} {f : Nat → Int32} (ha : ws[q0]? = some (a, .inl (cA, n, .inl f))) (ht : tys[t0]? = some (cA, .byte)) {i : Nat} {x : Int32} (hi : i < n) (hn : n < 2 ^ 31) (hdg : decode cc pc = .ok (.bastore, 1))
    (kk : ∀ (H1 : Heap) (locs1 : List Loc) (g : Nat → Int32), g = upd f i (vp_nar .byte x) → va_P D cl (ws.set q0 (a, .inl (cA, n, .inl g))) H1 → va_D A (ws.set q0 (a, .inl (cA, n, .inl g))) → va_S A H0 H1 locs1 → W p l e R s m args below meth c H1 locs1 cells slots Q (F0 m (pc + 1) ls rest)) : W p l e R s m args below meth c H locs cells slots Q (F0 m pc ls (.int x :: .int (nI i) :: .ref a :: rest)) :=
  va_bast hexec hb hK hP hD hS q0 t0 ha ht (vp_in_nI hi hn) hdg (fun H1 l1 h1 h2 h3 => kk H1 l1 _ (by rw [nI_clamp (by omega)]) h1 h2 h3)
theorem kv_last (hexec : p.tables.exec = Jvm.exec) (hb : c.code = cc) (hK : va_K D cl tys s) (hP : va_P D cl ws H) (hD : va_D A ws) (hS : va_S A H0 H locs) (q0 t0 : Nat) {cA : ClassId} {n : Nat} {f : Nat → Int64} (ha : ws[q0]? = some (a, .inl (cA, n, .inr (.inl f)))) (ht : tys[t0]? = some (cA, .long)) {i : Nat} {x : Int64} (hi : i < n) (hn : n < 2 ^ 31) (hdg : decode cc pc = .ok (.lastore, 1))
    (kk : ∀ (H1 : Heap) (locs1 : List Loc) (g : Nat → Int64), g = vp_updL f i x → va_P D cl (ws.set q0 (a, .inl (cA, n, .inr (.inl g)))) H1 → va_D A (ws.set q0 (a, .inl (cA, n, .inr (.inl g)))) → va_S A H0 H1 locs1 → W p l e R s m args below meth c H1 locs1 cells slots Q (F0 m (pc + 1) ls rest)) : W p l e R s m args below meth c H locs cells slots Q (F0 m pc ls (.long x :: .int (nI i) :: .ref a :: rest)) :=
  va_last hexec hb hK hP hD hS q0 t0 ha ht (vp_in_nI hi hn) hdg (fun H1 l1 h1 h2 h3 => kk H1 l1 _ (by rw [nI_clamp (by omega)]) h1 h2 h3)
theorem kv_ti {t N : Nat} {f : Nat → Int32} (hexec : p.tables.exec = Jvm.exec) (hb : c.code = cc) (hT : va_T .int t N (fun j => .int (f j)) A s s.heap) (hS : va_S A s.heap H locs) {i : Nat} (hi : i < N) (hn : N < 2 ^ 31) (hdg : decode cc pc = .ok (.iaload, 1))
    (kk : W p l e R s m args below meth c H locs cells slots Q (F0 m (pc + 1) ls (.int (f i) :: rest))) : W p l e R s m args below meth c H locs cells slots Q (F0 m pc ls (.int (nI i) :: .ref t :: rest)) :=
  va_ti hexec hb hT hS (vp_in_nI hi hn) (v := .int (f i)) (by rw [nI_clamp (by omega)]) hdg kk
/-- ints out of a table that is given at the start, by System.arraycopy -/
theorem kv_copyT {t n0 : Nat} {f : Nat → Int32} (hexec : p.tables.exec = Jvm.exec) (hb : c.code = cc) (hml : c.maxLocals = ls.size) {own : String} {index : Nat} (hown : s.vm.findClass own = some m.cls) (hlink : (Cond.methodLink own index arraycopyName).before args s = true) (hnat : (Cond.native arraycopyName).before args s = true) (hstat : (Cond.static arraycopyName).before args s = true) (hini : (Cond.initialized "java/lang/System").before args s = true)
    (hK : va_K D cl tys s) (hP : va_P D cl ws H) (hD : va_D A ws) (hS : va_S A s.heap H locs) (hT : va_T .int t n0 (fun j => .int (f j)) A s s.heap) (q1 t1 : Nat) {c1 : ClassId} {n1 : Nat} {g : Nat → Int32} (ha : ws[q1]? = some (a, .inl (c1, n1, .inl g))) (ht : tys[t1]? = some (c1, .int))
    {sp dp n : Int32} (h1 : ¬ sp < 0) (h2 : ¬ dp < 0) (h3 : ¬ n < 0) (h4 : sp.toNatClampNeg + n.toNatClampNeg ≤ n0) (h5 : dp.toNatClampNeg + n.toNatClampNeg ≤ n1)
    (hframes : 1 ≤ R.frames) (hlocals : (rest.map fun v => v.category).sum + (nativeFrameWords "java/lang/System" "arraycopy" 5 + 11) ≤ R.locals) (hdg : decode cc pc = .ok (.invokestatic index, 3))
    (kk : ∀ (H1 : Heap) (locs1 : List Loc) (g2 : Nat → Int32), va_P D cl (ws.set q1 (a, .inl (c1, n1, .inl g2))) H1 → va_D A (ws.set q1 (a, .inl (c1, n1, .inl g2))) → va_S A s.heap H1 locs1 → W p l e R s m args below meth c H1 locs1 cells slots Q (F0 m (pc + 3) ls rest)) :
    W p l e R s m args below meth c H locs cells slots Q (F0 m pc ls (.int n :: .int dp :: .ref a :: .int sp :: .ref t :: rest)) := by
  have pos : ∀ z : Int32, ¬ z < 0 → z.toInt = (z.toNatClampNeg : Int) := fun z hz => by
    have h0 := Int32.le_iff_toInt_le.mp (Int32.not_lt.mp hz)
    have h0' : (0 : Int) ≤ z.toInt := by simpa using h0
    show z.toInt = ((z.toInt.toNat : Nat) : Int)
    omega
  intro T hT0 X
  obtain ⟨src, e1, e2, e3, e4, -, e5, e6⟩ := hT
  have hc0 : H[t]? = some src := by rw [hS.2.1 t (Array.getElem?_eq_some_iff.mp e1).1 e6]; exact e1
  have hc1 : H[a]? = some (vp_cell c1 (n1, .inl g)) := hP q1 _ ha
  obtain ⟨o1, k0, o2, cm0, o3⟩ := e2
  obtain ⟨-, k1, o4, cm1, o5⟩ := (hK.2 t1 _ ht).1 n1 (fun j => .int (g j))
  have hel : ∀ i : Nat, i < n.toNatClampNeg → src.slots.getD (sp.toNatClampNeg + i) .null = .int (f (sp.toNatClampNeg + i)) := fun i hi => by
    rw [Array.getD_eq_getD_getElem?, e5 _ (by omega)]; rfl
  obtain ⟨vm', X', step⟩ := X.arraycopy hexec hown hlink hnat hstat hini (src := t) (dst := a) (cs := src) (cd := vp_cell c1 (n1, .inl g)) (srcPos := sp) (destPos := dp) (n := n) (by rw [hT0]; exact hc0) (by rw [hT0]; exact hc1)
    o1 (fun _ h => by cases h) e3 (fun h => by cases h) o2 o4 o3 o5 (by simp [refKind]) h1 h2 h3
    (by rw [pos sp h1, pos n h3]; omega)
    (by rw [pos dp h2, pos n h3]; show ¬ _ > ((arrV c1 n1 (fun j => .int (g j))).slots.size : Int); rw [arrV_size]; omega)
    (fun vm₁ _ i hi => ⟨by rw [hel i hi]; rfl, by rw [hel i hi]; exact trivial⟩)
    (g := F0 m pc ls (.int n :: .int dp :: .ref a :: .int sp :: .ref t :: rest)) rfl (by rw [hml]) (rest := rest) rfl (by rw [hb]; exact hdg) hframes (by show 2 * 0 + _ + _ ≤ _; omega)
  rw [show copied src (vp_cell c1 (n1, .inl g)) sp dp n = vp_cell c1 (n1, .inl (va_cpy f g sp.toNatClampNeg dp.toNatClampNeg n.toNatClampNeg)) from va_copiedX (fun z => .int z) src c1 f g e5 h4] at X' step
  have hlt : a < H.size := (Array.getElem?_eq_some_iff.mp hc1).1
  have oq : ∀ q : Nat, q ≠ a → (H.setIfInBounds a (vp_cell c1 (n1, .inl (va_cpy f g sp.toNatClampNeg dp.toNatClampNeg n.toNatClampNeg))))[q]? = H[q]? := fun q hq => by simp [Array.getElem?_setIfInBounds, Ne.symm hq]
  have hAa : A a := hD.2 q1 _ ha
  obtain ⟨u, a1, b1⟩ := kk _ _ (va_cpy f g sp.toNatClampNeg dp.toNatClampNeg n.toNatClampNeg) (hP.set hD ha (show (H.setIfInBounds a _)[a]? = some _ by simp [Array.getElem?_setIfInBounds, hlt]) oq) (hD.set ha)
    ⟨by simp; exact hS.1, fun q g1 g2 => by rw [oq q (fun e => g2 (e ▸ hAa))]; exact hS.2.1 q g1 g2, fun q hq => by
      rcases List.mem_append.mp hq with h | h
      · exact hS.2.2 q h
      · obtain ⟨z, -, hz⟩ := List.mem_map.mp h
        rw [← hz]; exact hAa⟩ _ (by rw [← hT0]; rfl) X'
  exact ⟨u, step u a1, b1⟩
/-- a static field of Throwable: where it lies, and that it holds a reference or null -/
def kT (n d : String) (A : Nat → Prop) (U : State) (H : Heap) : Prop := ∃ (c : ClassId) (k : Class) (i : Nat) (f : Field) (a : Nat) (cell : Cell) (v : Value), U.vm.findClass "java/lang/Throwable" = some c ∧ U.fieldFound? "java/lang/Throwable" n d = some (c, k, i, f) ∧ f.isStatic = true ∧ k.statics = some a ∧ H[a]? = some cell ∧ cell.vm.isStatics = true ∧ cell.cls = c ∧ f.slot < cell.slots.size ∧ k.staticTypes[f.slot]? = some f.type ∧ cell.slots[f.slot]? = some v ∧ v.isRef = true ∧ ¬ A a
theorem kT.moved {n d : String} {A : Nat → Prop} {u U : State} {H : Heap} (h : kT n d A u H) (hvm : u.vm.Alike U.vm) : kT n d A U H := by
  obtain ⟨c, k, i, f, a, cell, v, h1, h2, h3, h4, h5, h6, h7, h8, h9, h10, h11, h12⟩ := h
  obtain ⟨k', hi', he⟩ := State.fieldFound?_setVm hvm h2
  exact ⟨c, k', i, f, a, cell, v, by rw [hvm.findClass]; exact h1, hi', h3, by rw [he]; exact h4, h5, h6, h7, h8, by rw [he]; exact h9, h10, h11, h12⟩
theorem kT.kept {n d : String} {A : Nat → Prop} {U : State} {H H1 : Heap} (h : kT n d A U H) (hq : ∀ a : Nat, a < H.size → ¬ A a → H1[a]? = H[a]?) : kT n d A U H1 := by
  obtain ⟨c, k, i, f, a, cell, v, h1, h2, h3, h4, h5, h6, h7, h8, h9, h10, h11, h12⟩ := h
  exact ⟨c, k, i, f, a, cell, v, h1, h2, h3, h4, by rw [hq a (Array.getElem?_eq_some_iff.mp h5).1 h12]; exact h5, h6, h7, h8, h9, h10, h11, h12⟩
theorem kT.narrow {n d : String} {A B : Nat → Prop} {U : State} {H : Heap} (h : kT n d A U H) (hAB : ∀ q, B q → A q) : kT n d B U H := by
  obtain ⟨c, k, i, f, a, cell, v, h1, h2, h3, h4, h5, h6, h7, h8, h9, h10, h11, h12⟩ := h
  exact ⟨c, k, i, f, a, cell, v, h1, h2, h3, h4, h5, h6, h7, h8, h9, h10, h11, fun z => h12 (hAB _ z)⟩
-- what the statics hold that the walks read
def zz (A : Nat → Prop) (U : State) (H : Heap) : Prop := kT "UNASSIGNED_STACK" "[Ljava/lang/StackTraceElement;" A U H ∧ kT "SUPPRESSED_SENTINEL" "Ljava/util/List;" A U H ∧ (∃ (t : Nat) (f : Nat → Int32), va_Z "ThresholdBench$Sha" "START" "[I" (.ref t) A U H ∧ va_T .int t 8 (fun j => .int (f j)) A U H) ∧ (∃ (t : Nat) (f : Nat → Int32), va_Z "ThresholdBench$Sha" "ROUND" "[I" (.ref t) A U H ∧ va_T .int t 64 (fun j => .int (f j)) A U H)
theorem zz.moved {A : Nat → Prop} {u U : State} {H : Heap} (h : zz A u H) (hvm : u.vm.Alike U.vm) : zz A U H := by
  obtain ⟨h1, h2, ⟨t, f, h3, h4⟩, ⟨t', f', h5, h6⟩⟩ := h
  exact ⟨h1.moved hvm, h2.moved hvm, ⟨t, f, va_Z.moved hvm h3, va_T.moved hvm h4⟩, ⟨t', f', va_Z.moved hvm h5, va_T.moved hvm h6⟩⟩
theorem zz.kept {A : Nat → Prop} {U : State} {H H1 : Heap} (h : zz A U H) (hq : ∀ a : Nat, a < H.size → ¬ A a → H1[a]? = H[a]?) : zz A U H1 := by
  obtain ⟨h1, h2, ⟨t, f, h3, h4⟩, ⟨t', f', h5, h6⟩⟩ := h
  exact ⟨h1.kept hq, h2.kept hq, ⟨t, f, h3.kept hq, h4.kept hq⟩, ⟨t', f', h5.kept hq, h6.kept hq⟩⟩
theorem zz.narrow {A B : Nat → Prop} {U : State} {H : Heap} (h : zz A U H) (hAB : ∀ q, B q → A q) : zz B U H := by
  obtain ⟨h1, h2, ⟨t, f, h3, h4⟩, ⟨t', f', h5, h6⟩⟩ := h
  exact ⟨h1.narrow hAB, h2.narrow hAB, ⟨t, f, h3.narrow hAB, h4.narrow hAB⟩, ⟨t', f', h5.narrow hAB, h6.narrow hAB⟩⟩
def nn (U : State) : Prop := va_Nw (.castable "java/lang/IllegalStateException" "java/lang/IllegalStateException") U ∧ va_Nw (.castable "java/lang/IllegalArgumentException" "java/lang/IllegalArgumentException") U ∧ va_Nw (.declares ⟨"java/lang/RuntimeException", "<init>", "()V"⟩) U ∧ va_Nw (.declares ⟨"java/lang/Exception", "<init>", "()V"⟩) U ∧ va_Nw (.declares ⟨"java/lang/Throwable", "<init>", "()V"⟩) U ∧ va_AO R_Par U ∧ va_AO R_Poi U ∧ va_AO R_Ter U ∧ va_AOA .int U
theorem nn.warm {u U : State} (h : nn u) (hW : u.WarmedH U.vm) : nn U := by
  obtain ⟨h1, h2, h3, h4, h5, h6, h7, h8, h9⟩ := h
  exact ⟨va_Nw.warmC hW h1, va_Nw.warmC hW h2, va_Nw.warmD hW h3, va_Nw.warmD hW h4, va_Nw.warmD hW h5, va_AO.moved hW.alike h6, va_AO.moved hW.alike h7, va_AO.moved hW.alike h8, va_AOA.moved hW.alike h9⟩
theorem nn.same {u U : State} (h : nn u) (hv : u.vm = U.vm) : nn U := by
  obtain ⟨h1, h2, h3, h4, h5, h6, h7, h8, h9⟩ := h
  have ha : u.vm.Alike U.vm := hv ▸ Vm.Alike.refl u.vm
  exact ⟨va_Nw.same rfl hv h1, va_Nw.same rfl hv h2, va_Nw.same rfl hv h3, va_Nw.same rfl hv h4, va_Nw.same rfl hv h5, va_AO.moved ha h6, va_AO.moved ha h7, va_AO.moved ha h8, va_AOA.moved ha h9⟩
def pw (D : va_G) (cl : List vw_C) (ws : va_W) (tys : List (ClassId × FieldType)) (sz : Nat) (U : State) : Prop := U.heap.size = sz ∧ va_P D cl ws U.heap ∧ va_K D cl tys U ∧ va_D (fun _ => True) ws ∧ zz (va_A ws sz) U U.heap ∧ nn U
theorem pw.blind {av : List Value} {sz : Nat} : FrameBlind (va_Pc av (pw D cl ws tys sz)) := fun a U g mk q => by
  obtain ⟨q0, q1, qP, qK, qD, qZ, qN⟩ := q
  exact ⟨q0, q1, qP, va_K.moved (u := U) (U := U.calling g mk a) (Vm.Alike.refl U.vm) qK, qD, zz.moved (u := U) (U := U.calling g mk a) qZ (Vm.Alike.refl U.vm), nn.same (u := U) (U := U.calling g mk a) qN rfl⟩
theorem pw.make {wc : va_W} {tc : List (ClassId × FieldType)} (hP : va_P D cl wc H) (hK : va_K D cl tc s) (hD : va_D A wc) (hZ : zz A s s.heap) (hN : nn s) (hS : va_S A s.heap H locs) (hF : ∀ q, va_A wc H.size q → A q) {U : State} (hU : U.heap = H) (hW : s.WarmedH U.vm) : pw D cl wc tc H.size U :=
  ⟨by rw [hU], by rw [hU]; exact hP, va_K.moved hW.alike hK, hD.weaken (fun _ _ _ _ => trivial), by rw [hU]; exact ((hZ.kept hS.2.1).narrow hF).moved hW.alike, hN.warm hW⟩
def qw (D : va_G) (cl : List vw_C) (A : Nat → Prop) (ws : va_W) (tys : List (ClassId × FieldType)) (t : State) : Prop := va_P D cl ws t.heap ∧ va_K D cl tys t ∧ va_D A ws
theorem k_fm {ws wc : va_W} {isC : List Nat} (hC : isC.map (fun i => ws[i]?) = wc.map some) : isC.filterMap (fun i => ws[i]?) = wc := by
  have h : ∀ (l : List Nat) (w : va_W), l.map (fun i => ws[i]?) = w.map some → l.filterMap (fun i => ws[i]?) = w := by
    intro l
    induction l with
    | nil => intro w h; cases w with
      | nil => rfl
      | cons => simp at h
    | cons x l ih => intro w h; cases w with
      | nil => simp at h
      | cons y w =>
        simp only [List.map_cons, List.cons.injEq] at h
        rw [List.filterMap_cons, h.1, ih w h.2]
  exact h isC wc hC
section Fin
variable {mc ms : Nat} {S : Type} {w1 : S → va_W} {ty1 : S → List (ClassId × FieldType)} {wc wr : va_W} {av : Array Value}
theorem k_fini {post : Int32 → S → Prop} (isC isR : List Nat)
    (hr : va_Run p l e R s m args below meth c H locs cells slots mc ms (F0 m pc ls st0) rest (va_Qi post (fun u t => qw D cl (va_A wc H.size) (w1 u) (ty1 u) t) (va_A wc H.size) av) (va_A wc H.size))
    (hP : va_P D cl ws H) (hD : va_D A ws) (hK : va_K D cl tys s) (hS : va_S A s.heap H locs) (hA : ∀ q, s.heap.size ≤ q → A q) (hC : isC.map (fun i => ws[i]?) = wc.map some) (hR : isR.map (fun i => ws[i]?) = wr.map some) (hn : va_nd isR = true) (hdis : ∀ i ∈ isR, i ∉ isC)
    (kk : ∀ (r : Int32) (u : S) (H1 : Heap) (locs1 : List Loc), post r u → va_P D cl (wr ++ w1 u) H1 → va_D A (wr ++ w1 u) → va_K D cl (tys ++ ty1 u) s → va_S A s.heap H1 locs1 → W p l e R s m args below meth c H1 locs1 (cells + mc) (slots + ms) Q (F0 m (pc + 3) ls (.int r :: rest))) :
    W p l e R s m args below meth c H locs cells slots Q (F0 m pc ls st0) := by
  have hFc := va_free hD hS hA isC hC
  refine va_calli hr hS (fun q _ h => hFc q h) hFc (fun r u t H1 locs1 ht hvm hw hB hz1 hk1 hS1 => ?_)
  obtain ⟨hP1, hK1, hD1⟩ := hB
  rw [ht] at hP1
  obtain ⟨hP2, hD2⟩ := va_join hP hD isC isR hC hR hn hdis hk1 hFc hP1 hD1
  exact kk r u H1 locs1 hw hP2 hD2 (hK.app (va_K.moved hvm.symm hK1)) hS1
theorem k_finv {post : S → Prop} (isC isR : List Nat)
    (hr : va_Run p l e R s m args below meth c H locs cells slots mc ms (F0 m pc ls st0) rest (va_Qv post (fun u t => qw D cl (va_A wc H.size) (w1 u) (ty1 u) t) (va_A wc H.size) av) (va_A wc H.size))
    (hP : va_P D cl ws H) (hD : va_D A ws) (hK : va_K D cl tys s) (hS : va_S A s.heap H locs) (hA : ∀ q, s.heap.size ≤ q → A q) (hC : isC.map (fun i => ws[i]?) = wc.map some) (hR : isR.map (fun i => ws[i]?) = wr.map some) (hn : va_nd isR = true) (hdis : ∀ i ∈ isR, i ∉ isC)
    (kk : ∀ (u : S) (H1 : Heap) (locs1 : List Loc), post u → va_P D cl (wr ++ w1 u) H1 → va_D A (wr ++ w1 u) → va_K D cl (tys ++ ty1 u) s → va_S A s.heap H1 locs1 → W p l e R s m args below meth c H1 locs1 (cells + mc) (slots + ms) Q (F0 m (pc + 3) ls rest)) :
    W p l e R s m args below meth c H locs cells slots Q (F0 m pc ls st0) := by
  have hFc := va_free hD hS hA isC hC
  refine va_callv hr hS (fun q _ h => hFc q h) hFc (fun u t H1 locs1 ht hvm hw hB hz1 hk1 hS1 => ?_)
  obtain ⟨hP1, hK1, hD1⟩ := hB
  rw [ht] at hP1
  obtain ⟨hP2, hD2⟩ := va_join hP hD isC isR hC hR hn hdis hk1 hFc hP1 hD1
  exact kk u H1 locs1 hw hP2 hD2 (hK.app (va_K.moved hvm.symm hK1)) hS1
end Fin
section Run
variable {mc ms nL maxL n index : Nat} {y : MethodName} {bytes : ByteArray} {ret : Option FieldType} {rm : Room} {Qc : Array Value → State → Outcome → State → Prop} {own C : String} {b : Addr} {As : List Value} {wc : va_W} {tc : List (ClassId × FieldType)}
theorem k_runV (S : CallFix p m c cc nL s args AW own) (hM : Met l y (Cond.code y bytes maxL ret :: AW) rm (va_Pc (.ref b :: As) (pw D cl wc tc H.size)) Qc mc ms (va_A wc H.size)) (hG : GoodIn AW (wsV own index C y (Cond.code y bytes maxL ret :: AW)))
    (hd : y.cls = C ∧ y.cls ≠ "java/lang/invoke/MethodHandle" ∧ y.cls ≠ "java/lang/invoke/VarHandle" ∧ (parseMethodDescriptor y.desc).map (fun d => d.parameters.length) = some n) (hrc : rm.cells = mc) (hrs : rm.slots = ms) (hRm : rm.frames + 1 ≤ R.frames ∧ 8 + (maxL + 11) + rm.locals ≤ R.locals)
    (isC isT : List Nat) (hP : va_P D cl ws H) (hD : va_D A ws) (hK : va_K D cl tys s) (hS : va_S A s.heap H locs) (hA : ∀ q, s.heap.size ≤ q → A q) (hZ : zz A s s.heap) (hN : nn s) (hC : isC.map (fun i => ws[i]?) = wc.map some) (hnd : va_nd isC = true) (hT : isT.filterMap (fun i => tys[i]?) = tc)
    {ci : Nat} {q : vw_C} {fs : List Value} (hr : wc[0]? = some (b, .inr (ci, fs))) (hc : cl[ci]? = some q) (hqC : q.1 = C)
    (hn : As.length = n) (hsize : ls.size = nL) (hstack : st0 = As.reverse ++ .ref b :: rest) (hW : (rest.map fun v => v.category).sum ≤ 8) (hdg : decode cc pc = .ok (.invokevirtual index, 3)) (hf : cells + mc ≤ R.cells ∧ slots + ms ≤ R.slots) :
    va_Run p l e R s m args below meth c H locs cells slots mc ms (F0 m pc ls st0) rest (Qc (Value.ref b :: As).toArray) (va_A wc H.size) := by
  subst hqC
  have hPc := hP.sub isC (k_fm hC)
  have hDc := hD.sub isC hnd hC
  have hKc := hK.sub isT hT
  have hFc := va_free hD hS hA isC hC
  exact va_runV (As := As) (rest := rest) S hM (cwV n S.2.2.2.2 hG rfl hrc hrs hd hRm) ⟨pw.blind, va_recv hKc hPc hc hr, fun U hU hW => ⟨rfl, pw.make hPc hKc hDc hZ hN hS hFc hU hW⟩⟩ rfl hn hsize hstack (lv_room hW) hdg hf
theorem k_runS (S : CallFix p m c cc nL s args AW own) (hM : Met l y (Cond.code y bytes maxL ret :: AW) rm (va_Pc As (pw D cl wc tc H.size)) Qc mc ms (va_A wc H.size)) (hG : GoodIn AW (va_wsS own index y (Cond.code y bytes maxL ret :: AW)))
    (hd : y.cls ≠ "java/lang/invoke/MethodHandle" ∧ y.cls ≠ "java/lang/invoke/VarHandle" ∧ (parseMethodDescriptor y.desc).map (fun d => d.parameters.length) = some n) (hrc : rm.cells = mc) (hrs : rm.slots = ms) (hRm : rm.frames + 1 ≤ R.frames ∧ 8 + (maxL + 11) + rm.locals ≤ R.locals)
    (isC isT : List Nat) (hP : va_P D cl ws H) (hD : va_D A ws) (hK : va_K D cl tys s) (hS : va_S A s.heap H locs) (hA : ∀ q, s.heap.size ≤ q → A q) (hZ : zz A s s.heap) (hN : nn s) (hC : isC.map (fun i => ws[i]?) = wc.map some) (hnd : va_nd isC = true) (hT : isT.filterMap (fun i => tys[i]?) = tc)
    (hn : As.length = n) (hsize : ls.size = nL) (hstack : st0 = As.reverse ++ rest) (hW : (rest.map fun v => v.category).sum ≤ 8) (hdg : decode cc pc = .ok (.invokestatic index, 3)) (hf : cells + mc ≤ R.cells ∧ slots + ms ≤ R.slots) :
    va_Run p l e R s m args below meth c H locs cells slots mc ms (F0 m pc ls st0) rest (Qc As.toArray) (va_A wc H.size) := by
  have hPc := hP.sub isC (k_fm hC)
  have hDc := hD.sub isC hnd hC
  have hKc := hK.sub isT hT
  have hFc := va_free hD hS hA isC hC
  exact va_runS (As := As) (rest := rest) S hM (va_cwS n S.2.2.2.2 hG rfl hrc hrs hd hRm) ⟨pw.blind, fun U hU hW => ⟨rfl, pw.make hPc hKc hDc hZ hN hS hFc hU hW⟩⟩ rfl hn hsize hstack (lv_room hW) hdg hf
theorem k_runI (S : CallFix p m c cc nL s args AW own) (hM : Met l y (Cond.code y bytes maxL none :: AW) rm (va_Pc (.ref b :: As) (pw D cl wc tc H.size)) Qc mc ms (va_A wc H.size)) (hG : GoodIn AW (Cond.code y bytes maxL none :: AW))
    (h1 : Cond.initialized y.cls ∈ AW) (h2 : Cond.methodLink own index y ∈ AW) (h3 : Cond.instanceMethod y ∈ AW) (hy1 : y.name = "<init>")
    (hd : y.cls ≠ "java/lang/invoke/MethodHandle" ∧ y.cls ≠ "java/lang/invoke/VarHandle" ∧ (parseMethodDescriptor y.desc).map (fun d => d.parameters.length) = some n) (hrc : rm.cells = mc) (hrs : rm.slots = ms) (hRm : rm.frames + 1 ≤ R.frames ∧ 8 + (maxL + 11) + rm.locals ≤ R.locals)
    (isC isT : List Nat) (hP : va_P D cl ws H) (hD : va_D A ws) (hK : va_K D cl tys s) (hS : va_S A s.heap H locs) (hA : ∀ q, s.heap.size ≤ q → A q) (hZ : zz A s s.heap) (hN : nn s) (hC : isC.map (fun i => ws[i]?) = wc.map some) (hnd : va_nd isC = true) (hT : isT.filterMap (fun i => tys[i]?) = tc)
    (hn : As.length = n) (hsize : ls.size = nL) (hstack : st0 = As.reverse ++ .ref b :: rest) (hW : (rest.map fun v => v.category).sum ≤ 8) (hdg : decode cc pc = .ok (.invokespecial index, 3)) (hf : cells + mc ≤ R.cells ∧ slots + ms ≤ R.slots) :
    va_Run p l e R s m args below meth c H locs cells slots mc ms (F0 m pc ls st0) rest (Qc (Value.ref b :: As).toArray) (va_A wc H.size) := by
  have hPc := hP.sub isC (k_fm hC)
  have hDc := hD.sub isC hnd hC
  have hKc := hK.sub isT hT
  have hFc := va_free hD hS hA isC hC
  have hts := S.2.2.2.2
  exact va_runI (As := As) (rest := rest) S hM (cwI n hts hG rfl hrc hrs (hts _ h1) (hts _ h2) (hts _ h3) hy1 hd hRm) ⟨pw.blind, fun U hU hW => ⟨rfl, pw.make hPc hKc hDc hZ hN hS hFc hU hW⟩⟩ rfl hn hsize hstack (lv_room hW) hdg hf
end Run
end KB
