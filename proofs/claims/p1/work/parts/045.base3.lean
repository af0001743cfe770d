/-! BASE 3: methods that end by an exception of a known class: my own contract, its throw, its call, its catch -/
/-- the method has thrown an object of class E; what it wrote lies in free -/
def xQ (E : String) (mc ms : Nat) (free : Addr → Prop) : Array Value → State → Outcome → State → Prop := fun _ st o t =>
  ∃ (q : Addr) (ce : Cell) (L : List Loc), o = .threw q ∧ t.heap[q]? = some ce ∧ ce.vm = .none ∧ st.vm.findClass E = some ce.cls ∧ st.WarmedH t.vm ∧ st.sameButNew ({ t with vm := st.vm } : State) L mc ms ∧ ∀ z ∈ L, free z.base
def xMet (l : Launch) (y : MethodName) (ws : List Cond) (rm : Room) (Pc : Array Value → State → Prop) (E : String) (mc ms : Nat) (free : Addr → Prop) : Prop :=
  MetFree l y (headSpec ws rm) Pc (fun _ _ _ _ _ => True) (xQ E mc ms free)
/-- what a body that throws owes at its end -/
def xG (below : List Frame) (E : String) (a : Array Value) (s : State) (mc ms : Nat) (free : Addr → Prop) : State → Prop := fun t => ∃ o, t.status = .running ∧ Ended t below o ∧ xQ E mc ms free a s o t
theorem x_ofW {l : Launch} {y : MethodName} {ws ws' : List Cond} {rm : Room} {Pc : Array Value → State → Prop} {E : String} {mc ms : Nat} {free : Addr → Prop} {cc : ByteArray} {maxL : Nat} {ret : Option FieldType} (hy : plainName y.cls = true) (hw : ws = Cond.code y cc maxL ret :: ws')
    (body : ∀ p e s m args below meth c s₁, BodyLoose p l y (headSpec ws rm) cc maxL ret e s m args below meth c s₁ → c.maxLocals = maxL → (∀ x ∈ c.exceptionTable.toList, False) → Pc args s →
      W p l e (headSpec ws rm).room s m args below meth c s.heap [] 0 0 (xG below E args s mc ms free) (entryFrame m args maxL)) : xMet l y ws rm Pc E mc ms free := by
  have hmem : Cond.code y cc maxL ret ∈ ws := by rw [hw]; exact List.mem_cons_self
  refine MetFree.of_bodyS (code := cc) (maxLocals := maxL) (ret := ret) hy (fun args s m h hn => ?_) (fun p e s m args below meth c s₁ B hml hP _ => ?_)
  · obtain ⟨meth, c, h1, h2, h3, h4, h5, h6, -, -⟩ := Cond.code_spec hn (atoms_spec (ws := ws) h _ hmem)
    exact ⟨meth, c, h1, h2, h3, h4, h5, h6⟩
  · have hno := B.noHandlers (atoms_spec (ws := ws) B.pre _ hmem)
    obtain ⟨t, a1, o, b1, b2, b3⟩ := body p e s m args below meth c s₁ B hml (fun x hx => by rw [Array.isEmpty_iff.mp hno] at hx; cases hx) hP s₁ (by rw [B.state]; rfl) (Stand.of_body B)
    exact ⟨t, o, a1, b1, b2, b3⟩
/-- a cell with no written place is as it was -/
theorem x_same {s U : State} {locs : List Loc} {k n : Nat} (h : s.sameButNew ({ U with vm := s.vm } : State) locs k n) : s.heap.size ≤ U.heap.size ∧ ∀ q : Nat, q < s.heap.size → (∀ z ∈ locs, z.base ≠ q) → U.heap[q]? = s.heap[q]? := by
  obtain ⟨-, h2, -, -, -, h6⟩ := h
  refine ⟨h2, fun q hq hz => ?_⟩
  obtain ⟨c9, e1, e2, -, e4⟩ := h6 q _ (Array.getElem?_eq_getElem hq)
  rw [Array.ext_getElem? (xs := c9.slots) (ys := (s.heap[q]).slots) (fun i => e4 i (fun hm => hz _ hm rfl))] at e2
  rw [Array.getElem?_eq_getElem hq]
  exact e1.trans (congrArg some e2)
/-- no cell of a world, and no new one, is a cell of statics -/
theorem x_st {D : va_G} {cl : List vw_C} {ws : va_W} {s : State} (hP : va_P D cl ws s.heap) : ∀ q : Nat, va_A ws s.heap.size q → ∀ cell, s.heap[q]? = some cell → cell.vm.isStatics = false := by
  intro q hq cell hc
  rcases hq with ⟨k, en, hk⟩ | hq
  · have h1 := hP k (q, en) hk
    match en, h1 with
    | .inl (cA, n, .inl f), h1 => cases Option.some.inj (hc.symm.trans (show s.heap[q]? = some _ from h1)); rfl
    | .inl (cA, n, .inr (.inl f)), h1 => cases Option.some.inj (hc.symm.trans (show s.heap[q]? = some _ from h1)); rfl
    | .inl (cA, n, .inr (.inr (.inl f))), h1 => cases Option.some.inj (hc.symm.trans (show s.heap[q]? = some _ from h1)); rfl
    | .inl (cA, n, .inr (.inr (.inr (.inl f)))), h1 => cases Option.some.inj (hc.symm.trans (show s.heap[q]? = some _ from h1)); rfl
    | .inl (cA, n, .inr (.inr (.inr (.inr f)))), h1 => cases Option.some.inj (hc.symm.trans (show s.heap[q]? = some _ from h1)); rfl
    | .inr (ci, fs), h1 =>
      obtain ⟨q', -, cell', g1, -, g3, -⟩ := h1
      cases Option.some.inj (hc.symm.trans g1)
      rw [g3]; rfl
  · rw [Array.getElem?_eq_none hq] at hc; cases hc
theorem x_table {l : Launch} {p : Program} {y : MethodName} {S : Spec} {cc bytes : ByteArray} {maxL maxL' : Nat} {ret ret' : Option FieldType} {e : Env} {s s₁ : State} {m : MethodId} {args : Array Value} {below : List Frame} {meth : Method} {c : Code} {hh : List (Nat × Nat × Nat × Nat)}
    (B : BodyLoose p l y S cc maxL ret e s m args below meth c s₁) (h : (Cond.codeWith y bytes maxL' ret' hh).before args s = true) : c.exceptionTable.toList = tableOf hh := by
  obtain ⟨m9, meth9, c9, hn9, h1, h2, -, -, h6, -⟩ := Cond.codeWith_spec h
  cases Option.some.inj (hn9.symm.trans B.named)
  cases Option.some.inj (h1.symm.trans B.method)
  cases Option.some.inj (h2.symm.trans (Stand.of_body B).code)
  rw [← h6, table_eq]
theorem kT.lays {n d : String} {A : Nat → Prop} {s : State} {args : Array Value} (h : kT n d A s s.heap) : (Cond.laysStatic "java/lang/Throwable" n d).before args s = true := by
  obtain ⟨c, k, i, f, a, cell, v, h1, h2, h3, h4, h5, h6, h7, h8, h9, -⟩ := h
  exact Cond.laysStatic_of h1 h2 h3 h4 h5 h6 h7 h8 h9
theorem kT.isref {n d : String} {A : Nat → Prop} {s : State} {args : Array Value} (h : kT n d A s s.heap) : (Cond.isRef (.static "java/lang/Throwable" n d)).before args s = true := by
  obtain ⟨c, k, i, f, a, cell, v, h1, h2, h3, h4, h5, h6, h7, h8, h9, h10, h11, -⟩ := h
  have he : (Term.static "java/lang/Throwable" n d).eval args s none [] s = some v := by simp [Term.eval, State.fieldNamed?, h2, h3, h4, h5, h6, h10]
  simp only [Cond.before, Cond.holds, Cond.value, he]
  cases v <;> simp_all [Value.isRef]
section X
variable {p : Program} {l : Launch} {e : Env} {R : Room} {s : State} {m : MethodId} {args : Array Value} {below : List Frame} {meth : Method} {c : Code} {H : Heap} {locs : List Loc} {cells slots : Nat} {Q : State → Prop}
variable {cc : ByteArray} {pc : Nat} {ls : Array Slot} {rest st0 : List Value} {D : va_G} {cl : List vw_C} {ws : va_W} {tys : List (ClassId × FieldType)} {A : Nat → Prop}
/-- q is thrown over the frame g -/
def xW (p : Program) (l : Launch) (e : Env) (R : Room) (s : State) (m : MethodId) (args : Array Value) (below : List Frame) (meth : Method) (c : Code) (H : Heap) (locs : List Loc) (cells slots : Nat) (Q : State → Prop) (g : JFrame) (q : Addr) : Prop :=
  ∀ T : State, T.heap = H → Stand p l e R s m args below meth c T locs cells slots → ∃ t, Steps p.tables e below ((T.setTop g).pushFrame (.throwing q)) t ∧ Q t
theorem x_out {E : String} {mc ms : Nat} {q : Addr} {ce : Cell} (hno : ∀ x ∈ c.exceptionTable.toList, False) (hlocks : meth.locks = false) (hce : H[q]? = some ce) (hv : ce.vm = .none) (hcl : s.vm.findClass E = some ce.cls) (hf : ∀ z ∈ locs, A z.base) (hc : cells ≤ mc) (hs : slots ≤ ms) :
    xW p l e R s m args below meth c H locs cells slots (xG below E args s mc ms A) (F0 m pc ls rest) q := by
  intro T hT X
  obtain ⟨st1, hrun, hend, hW, hsm⟩ := X.leaveThrown q (g := F0 m pc ls rest) rfl rfl rfl (fun x hx => (hno x hx).elim) hlocks
  exact ⟨_, st1, .threw q, hrun, hend, q, ce, locs, rfl, by show T.heap[q]? = _; rw [hT]; exact hce, hv, hcl, hW, hsm.mono hc hs, hf⟩
theorem x_catch {own name E : String} {ce : Cell} {q : Addr} (hown : s.vm.findClass own = some m.cls) (x : ExceptionTableEntry) (suf : List ExceptionTableEntry) (htab : c.exceptionTable.toList = x :: suf) (hx : covers x pc = true) (h0 : x.catchType ≠ 0)
    (hlink : (Cond.classLink own x.catchType name).before args s = true) (hcast : (Cond.castable E name).before args s = true) (hce : H[q]? = some ce) (hv : ce.vm = .none) (hcl : s.vm.findClass E = some ce.cls)
    (kk : W p l e R s m args below meth c H locs cells slots Q (F0 m x.handlerPc ls [.ref q])) : xW p l e R s m args below meth c H locs cells slots Q (F0 m pc ls rest) q := by
  intro T hT X
  obtain ⟨c3, c4, hc3, hc4, hasg⟩ := Cond.castable_spec hcast
  cases Option.some.inj (hc3.symm.trans hcl)
  obtain ⟨hend, hk0⟩ := X.catches_of_link hown h0 hlink hc4 hasg
  obtain ⟨vm', X', st⟩ := X.thenCaughtThrough q (g := F0 m pc ls rest) rfl (Steps.refl _) (by rw [hT]; exact hce) (by rw [hv]; rfl) hk0 [] x suf htab (fun y hy => absurd hy List.not_mem_nil) hx hend
  obtain ⟨t, a1, b1⟩ := kk (T.setVm vm') hT X'
  exact ⟨t, st.trans a1, b1⟩
/-- the call of a method that throws -/
theorem x_call {mc ms nL maxL n index : Nat} {y : MethodName} {bytes : ByteArray} {ret : Option FieldType} {rm : Room} {own C E : String} {b : Addr} {As : List Value} {wc : va_W} {tc : List (ClassId × FieldType)}
    (S : CallFix p m c cc nL s args AW own) (hM : xMet l y (Cond.code y bytes maxL ret :: AW) rm (va_Pc (.ref b :: As) (pw D cl wc tc H.size)) E mc ms (va_A wc H.size)) (hG : GoodIn AW (wsV own index C y (Cond.code y bytes maxL ret :: AW)))
    (hd : y.cls = C ∧ y.cls ≠ "java/lang/invoke/MethodHandle" ∧ y.cls ≠ "java/lang/invoke/VarHandle" ∧ (parseMethodDescriptor y.desc).map (fun d => d.parameters.length) = some n) (hrc : rm.cells = mc) (hrs : rm.slots = ms) (hRm : rm.frames + 1 ≤ R.frames ∧ 8 + (maxL + 11) + rm.locals ≤ R.locals)
    (isC isT : List Nat) (hP : va_P D cl ws H) (hD : va_D A ws) (hK : va_K D cl tys s) (hS : va_S A s.heap H locs) (hA : ∀ q, s.heap.size ≤ q → A q) (hZ : zz A s s.heap) (hN : nn s) (hC : isC.map (fun i => ws[i]?) = wc.map some) (hnd : va_nd isC = true) (hT : isT.filterMap (fun i => tys[i]?) = tc)
    {ci : Nat} {q : vw_C} {fs : List Value} (hr : wc[0]? = some (b, .inr (ci, fs))) (hc : cl[ci]? = some q) (hqC : q.1 = C)
    (hn : As.length = n) (hsize : ls.size = nL) (hstack : st0 = As.reverse ++ .ref b :: rest) (hW : (rest.map fun v => v.category).sum ≤ 8) (hdg : decode cc pc = .ok (.invokevirtual index, 3)) (hf : cells + mc ≤ R.cells ∧ slots + ms ≤ R.slots)
    (kk : ∀ (ce : Cell) (q9 : Addr) (H1 : Heap) (locs1 : List Loc), va_S A s.heap H1 locs1 → H1[q9]? = some ce → ce.vm = .none → s.vm.findClass E = some ce.cls → xW p l e R s m args below meth c H1 locs1 (cells + mc) (slots + ms) Q (F0 m pc ls rest) q9) :
    W p l e R s m args below meth c H locs cells slots Q (F0 m pc ls st0) := by
  subst hqC
  have hPc := hP.sub isC (k_fm hC)
  have hDc := hD.sub isC hnd hC
  have hKc := hK.sub isT hT
  have hFc := va_free hD hS hA isC hC
  obtain ⟨hx, hb, hml, hown, hts⟩ := S
  obtain ⟨hy1, hy2, hy3, hy4⟩ := hd
  have ok : ∀ w ∈ wsV own index q.1 y (Cond.code y bytes maxL ret :: AW), w.before args s = true := fun w h => hts w (hG w h).1
  have hG2 : GoodIn AW (Cond.code y bytes maxL ret :: AW) := fun w h => hG w (by unfold wsV; exact List.mem_append_right _ h)
  have hlink : (Cond.methodLink own index y).before args s = true := ok _ (by simp [wsV])
  have hinst : (Cond.instanceMethod y).before args s = true := ok _ (by simp [wsV])
  have hsel : (Cond.selects q.1 y y).before args s = true := ok _ (by simp [wsV])
  have hini : (Cond.initialized y.cls).before args s = true := by rw [hy1]; exact ok _ (by simp [wsV])
  have hcode : (Cond.code y bytes maxL ret).before args s = true := ok _ (by simp [wsV])
  obtain ⟨cellB, hcB, hoB, hclB⟩ := va_recv hKc hPc hc hr
  intro T hT X
  obtain ⟨mk, methM, hnamed, hmethM, hstM, habM⟩ := Cond.instanceMethod_spec hinst
  obtain ⟨methM', cM, hmethM', -, -, -, -, -, -, hsigM⟩ := Cond.code_spec hnamed hcode
  cases hmethM.symm.trans hmethM'
  obtain ⟨c2, r2, m2, q1, q2, q3, q4, kP, hkP, hkPi⟩ := Cond.selects_spec hsel
  cases hclB.symm.trans q1
  cases (State.methodFound?_of_named hnamed ⟨hy2, hy3⟩).symm.trans q2
  cases hnamed.symm.trans q3
  have hlen : As.length = methM.sig.parameters.length := by
    rw [hsigM] at hy4
    exact hn.trans (Option.some.inj hy4).symm
  obtain ⟨vm₁, X₁, step₁⟩ := X.invokevirtual hx hown hlink hnamed hmethM hstM hkP hkPi ⟨hy2, hy3⟩ (a := b) (cell := cellB) (by rw [hT]; exact hcB) (fun z h => by rw [h] at hoB; cases hoB)
    (by rw [Launch.admits_selectMethod X.admits]; exact q4) hmethM habM hkP hkPi (g := F0 m pc ls st0) rfl (argsL := As) (rest := rest) hlen hstack (by rw [hb]; exact hdg)
  have hnm := X₁.named hnamed
  have hcode' : (Cond.code y bytes maxL ret).before (Value.ref b :: As).toArray (T.setVm vm₁) = true := pay_in hts hG2 _ List.mem_cons_self _ _ X₁.warmed
  obtain ⟨methY, cY, hmY, hcY, -, hlY, -, -, -, -⟩ := Cond.code_spec hnm hcode'
  obtain ⟨kY, hkY, -⟩ := className_of_methodNamed hnm
  have hini' : (Cond.initialized y.cls).before (Value.ref b :: As).toArray (T.setVm vm₁) = true := word_at X₁.warmed (Or.inl (by first | rfl | simp [Cond.onTables, Cond.keeps, Cond.steady])) hini
  have hpre : pw D cl wc tc H.size (T.setVm vm₁) := pw.make hPc hKc hDc hZ hN hS hFc hT X₁.warmed
  have hat : At (T.setVm vm₁) m c below := X₁.here
  have happ : (headSpec (Cond.code y bytes maxL ret :: AW) rm).appliesLoose y e.platform ((T.setVm vm₁).calling (F0 m pc ls rest) mk (Value.ref b :: As).toArray) = true :=
    Spec.appliesLoose_calling (g := F0 m pc ls rest) hat (by rw [hb]; exact hdg) hnm hkY (Cond.initialized_spec (findClass_of_methodNamed hnm) hkY hini')
      (X₁.room_calling (g := F0 m pc ls rest) (R' := (headSpec (Cond.code y bytes maxL ret :: AW) rm).room) (hsize.trans hml.symm) hmY hcY hRm.1
        (by rw [hlY]; have h8 : 2 * (F0 m pc ls rest).monitorRoom + ((F0 m pc ls rest).stack.map fun v => v.category).sum ≤ 8 := lv_room hW; have h9 : 8 + (maxL + 11) + (headSpec (Cond.code y bytes maxL ret :: AW) rm).room.locals ≤ R.locals := hRm.2; omega)
        (by rw [show (headSpec (Cond.code y bytes maxL ret :: AW) rm).room.cells = mc from hrc]; exact hf.1) (by rw [show (headSpec (Cond.code y bytes maxL ret :: AW) rm).room.slots = ms from hrs]; exact hf.2))
      (atoms_intro fun w hw => pay_in hts hG2 w hw _ _ X₁.warmed)
  obtain ⟨mid, hmid⟩ := hat.above
  have hfr : ((T.setVm vm₁).setTop (F0 m pc ls rest)).frames = (.java (F0 m pc ls rest) :: mid) ++ below := by rw [State.frames_setTop' _ hat.top, hmid]; rfl
  obtain ⟨o, s₂, hsteps, -, hend, hq⟩ := Steps.callFree hM p X.admits X.cas X.clock (acts := []) hfr happ (pw.blind _ _ (F0 m pc ls rest) mk ⟨rfl, hpre⟩) trivial
  obtain ⟨q9, ce, L, rfl, hce, hcv, hcl9, hW9, hsm, hL⟩ := hq
  rw [State.frames_setTop' _ hat.top, X₁.tail] at hend
  obtain ⟨T', X', hW', hsm', ht'⟩ := X₁.outOfThrown (g := F0 m pc ls rest) rfl hend hW9 hsm
  obtain ⟨z1, z2⟩ := x_same (s := T.setVm vm₁) (U := T') hsm'
  have hheap : s₂.heap = T'.heap := by rw [ht', Stand.throwing_heap]
  have hz1 : H.size ≤ T'.heap.size := by rw [← hT]; exact z1
  have hk : ∀ q : Nat, q < H.size → ¬ va_A wc H.size q → T'.heap[q]? = H[q]? := fun q h1 h2 => by
    rw [← hT] at h1 ⊢
    exact z2 q h1 (fun z hz e => h2 (e ▸ hL z hz))
  have hS1 : va_S A s.heap T'.heap (locs ++ L) := ⟨Nat.le_trans hS.1 hz1, fun q h1 h2 => by
      rw [hk q (Nat.lt_of_lt_of_le h1 hS.1) (fun z => h2 (hFc q z))]
      exact hS.2.1 q h1 h2, fun z hz => by
      rcases List.mem_append.mp hz with h | h
      · exact hS.2.2 z h
      · exact hFc _ (hL z h)⟩
  have hcl8 : s.vm.findClass E = some ce.cls := by
    have h1 : (T.setVm vm₁).vm.findClass E = some ce.cls := hcl9
    rw [X₁.warmed.alike.findClass] at h1
    exact h1
  obtain ⟨t, a1, b1⟩ := kk ce q9 T'.heap (locs ++ L) hS1 (by rw [← hheap]; exact hce) hcv hcl8 T' rfl X'
  refine ⟨t, step₁ _ (fun acts => ?_), b1⟩
  rw [doInvoke_state]
  exact hsteps.trans (by rw [ht']; exact a1)
/-- 'throw new E()': new; dup; invokespecial; athrow, no traces kept; every word of the throw holds at the method's entry, and no static was written since -/
theorem x_throw {mc ms ik ic : Nat} {own cls : String} {names : List String} (hexec : p.tables.exec = Jvm.exec) (hb : c.code = cc) (htr : l.stackTraces = false)
    (hown : s.vm.findClass own = some m.cls) (hcls : Bundle.fit cls = true) (hnames : ∀ n ∈ names, Bundle.fit n = true) (hk : (Cond.classLink own ik cls).before args s = true) (hini : (Cond.initialized cls).before args s = true) (h : ∀ w ∈ Bundle.ownAtoms0 own ic cls names, w.before args s = true)
    (hS : va_S A s.heap H locs) (hst : ∀ q : Nat, A q → ∀ cell, s.heap[q]? = some cell → cell.vm.isStatics = false) (hsize : ls.size = c.maxLocals) (hno : ∀ x ∈ c.exceptionTable.toList, False) (hlocks : meth.locks = false)
    (d0 : decode cc pc = .ok (.new ik, 3)) (d3 : decode cc (pc + 3) = .ok (.dup, 1)) (d4 : decode cc (pc + 4) = .ok (.invokespecial ic, 3)) (d7 : decode cc (pc + 7) = .ok (.athrow, 1))
    (hRf : names.length + 3 < R.frames) (hRl : (rest.map fun v => v.category).sum + (13 * (names.length + 1) + 42) ≤ R.locals) (hRc : cells + 1 ≤ R.cells) (hRs : slots + 6 ≤ R.slots) (hc : cells + 1 ≤ mc) (hs : slots + 6 ≤ ms) :
    W p l e R s m args below meth c H locs cells slots (xG below cls args s mc ms A) (F0 m pc ls rest) := by
  intro T hT X
  subst hb
  have htr' : e.platform.stackTraces = false := (show e.platform.stackTraces = l.stackTraces by rw [X.admits.platform]).trans htr
  have hins : (Cond.instantiable cls 6).before args s = true := h _ (by simp [Bundle.ownAtoms0])
  obtain ⟨vm₁, cX, kX, hfX, hkX, -, -, X₁, st1⟩ := X.newCold hexec (own := own) (C := cls) (index := ik) (n := 6) hown hk hins hini (g := F0 m pc ls rest) rfl d0 hRc hRs
  generalize hT1 : (T.setVm vm₁).pushCell { cls := cX, slots := kX.instanceTypes.map defaultValue, vm := .none } = T1 at X₁ st1
  have hcell : T1.heap[T.heap.size]? = some (freshCell cX kX) := by rw [← hT1]; exact State.heap_pushCell_size _ _
  have hsz : s.heap.size ≤ T.heap.size := by rw [hT]; exact hS.1
  have hcat : (Value.ref T.heap.size).category = 1 := rfl
  obtain ⟨U, hsteps, hrun, hend, hW, hsame, ce, hce, hoc⟩ := X₁.ctorThrow0 hexec htr' (own := own) (cls := cls) (names := names) (ic := ic) hown hcls hnames h (fun x hx cell hq => hst _ (hS.2.2 x hx) cell hq) hfX hkX hcell hsz
    (g := F0 m (pc + 4) ls (.ref T.heap.size :: .ref T.heap.size :: rest)) rfl hsize rfl rfl (rest := rest) rfl d4 d7 (fun x hx => (hno x hx).elim) hRf
    (by have h9 : (F0 m (pc + 4) ls (.ref T.heap.size :: .ref T.heap.size :: rest)).monitorRoom = 0 := rfl
        rw [h9]; simp only [List.map_cons, List.sum_cons, hcat]; omega) hlocks
  refine ⟨U, st1 _ ?_, .threw T.heap.size, hrun, hend, T.heap.size, ce, locs, rfl, hce, hoc.vm, hoc.cls, hW, hsame.mono hc hs, hS.2.2⟩
  show Steps p.tables e below (T1.setTop (F0 m (pc + 3) ls (.ref T.heap.size :: rest))) _
  jvm_step X₁.here [X₁.here.top, hexec, d3, Value.category]
  exact hsteps
/-- the call of a static method that has a table of its own, and returns -/
theorem k_runSW {mc ms nL maxL n index : Nat} {y : MethodName} {bytes : ByteArray} {ret : Option FieldType} {hh : List (Nat × Nat × Nat × Nat)} {rm : Room} {Qc : Array Value → State → Outcome → State → Prop} {own : String} {As : List Value} {wc : va_W} {tc : List (ClassId × FieldType)}
    (S : CallFix p m c cc nL s args AW own) (hM : Met l y (Cond.codeWith y bytes maxL ret hh :: AW) rm (va_Pc As (pw D cl wc tc H.size)) Qc mc ms (va_A wc H.size)) (hG : GoodIn AW (va_wsS own index y (Cond.codeWith y bytes maxL ret hh :: AW)))
    (hd : y.cls ≠ "java/lang/invoke/MethodHandle" ∧ y.cls ≠ "java/lang/invoke/VarHandle" ∧ (parseMethodDescriptor y.desc).map (fun d => d.parameters.length) = some n) (hrc : rm.cells = mc) (hrs : rm.slots = ms) (hRm : rm.frames + 1 ≤ R.frames ∧ 8 + (maxL + 11) + rm.locals ≤ R.locals)
    (isC isT : List Nat) (hP : va_P D cl ws H) (hD : va_D A ws) (hK : va_K D cl tys s) (hS : va_S A s.heap H locs) (hA : ∀ q, s.heap.size ≤ q → A q) (hZ : zz A s s.heap) (hN : nn s) (hC : isC.map (fun i => ws[i]?) = wc.map some) (hnd : va_nd isC = true) (hT : isT.filterMap (fun i => tys[i]?) = tc)
    (hn : As.length = n) (hsize : ls.size = nL) (hstack : st0 = As.reverse ++ rest) (hW : (rest.map fun v => v.category).sum ≤ 8) (hdg : decode cc pc = .ok (.invokestatic index, 3)) (hf : cells + mc ≤ R.cells ∧ slots + ms ≤ R.slots) :
    va_Run p l e R s m args below meth c H locs cells slots mc ms (F0 m pc ls st0) rest (Qc As.toArray) (va_A wc H.size) := by
  have hPc := hP.sub isC (k_fm hC)
  have hDc := hD.sub isC hnd hC
  have hKc := hK.sub isT hT
  have hFc := va_free hD hS hA isC hC
  obtain ⟨hx, hb, hml, hown, hts⟩ := S
  have ok : ∀ w ∈ va_wsS own index y (Cond.codeWith y bytes maxL ret hh :: AW), w.before args s = true := fun w h => hts w (hG w h).1
  have hG2 : GoodIn AW (Cond.codeWith y bytes maxL ret hh :: AW) := fun w h => hG w (by unfold va_wsS; exact List.mem_append_right _ h)
  have hini : (Cond.initialized y.cls).before args s = true := ok _ (by simp [va_wsS])
  have hcode : (Cond.codeWith y bytes maxL ret hh).before args s = true := ok _ (by simp [va_wsS])
  have hK8 : Back l R p e below s args y 3 8 (PreOf R mc ms (va_Pc As (pw D cl wc tc H.size))) (PostOf Qc mc ms (va_A wc H.size)) :=
    va_backW (hh := hh) (bytes := bytes) (maxL := maxL) (ret := ret) hM pw.blind hrc hrs hRm.1 hRm.2 (pay_in hts hG2) List.mem_cons_self (fun a' U hW => word_at hW (Or.inl (by first | rfl | simp [Cond.onTables, Cond.keeps, Cond.steady])) hini)
  intro T hT X
  obtain ⟨mk, methM, cM, hnamed, hmethM, -, -, -, -, -, -, hsigM⟩ := Cond.codeWith_spec hcode
  obtain ⟨kP, hkP, -⟩ := className_of_methodNamed hnamed
  have hlen : As.length = methM.sig.parameters.length := by
    have h4 := hd.2.2
    rw [hsigM] at h4
    exact hn.trans (Option.some.inj h4).symm
  obtain ⟨vm₁, X₁, step₁⟩ := X.invokestatic hx hown (ok (Cond.methodLink own index y) (by simp [va_wsS])) hnamed hmethM (Cond.static_spec hnamed hmethM (ok (Cond.static y) (by simp [va_wsS]))) hkP (Cond.initialized_spec (findClass_of_methodNamed hnamed) hkP hini) ⟨hd.1, hd.2.1⟩
    (g := F0 m pc ls st0) rfl (argsL := As) (rest := rest) hlen hstack (by rw [hb]; exact hdg)
  obtain ⟨v, B, X', hpost, hsteps⟩ := hK8 m meth c ⟨T.setVm vm₁, locs, cells, slots⟩ (F0 m pc ls rest) (.invokestatic index) mk As.toArray X₁ rfl (hsize.trans hml.symm) (by rw [hb]; exact hdg) (lv_room hW) (X₁.named hnamed)
    ⟨hf.1, hf.2, rfl, pw.make hPc hKc hDc hZ hN hS hFc hT X₁.warmed⟩
  obtain ⟨U', l2, c2, s2⟩ := B
  obtain ⟨g', mk', t, L, e1, e2, hq, h1, hL, h2, h3⟩ := hpost
  dsimp only [Pt.U, Pt.locs, Pt.cells, Pt.slots] at X' e1 e2 h1 h2 h3
  subst h1; subst h2; subst h3
  exact ⟨v, (T.setVm vm₁).calling g' mk' As.toArray, t, U', L, hT, X', hL, e1, e2, hq, fun target h => step₁ _ fun acts => by rw [doInvoke_state]; exact hsteps.trans h⟩
end X
