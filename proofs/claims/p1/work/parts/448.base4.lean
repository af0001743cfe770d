/-! BASE 4: longs that are natural numbers; arrays of them; sums of digits to the base 65536 -/
theorem k_lI {a : Nat} (h : a < 2 ^ 63) : (lN a).toInt = (a : Int) := pk_lT h
theorem k_ladd (a b : Nat) {n : Nat} (h : a + b = n) : lN a + lN b = lN n := by rw [← h]; exact lN_add a b
theorem k_land16 {a : Nat} (h : a < 2 ^ 64) : lN a &&& lN 65535 = lN (a % 65536) := by
  have ha : (UInt64.ofNat a).toNat = a := Nat.mod_eq_of_lt h
  have h1 : UInt64.ofNat a &&& UInt64.ofNat 65535 = UInt64.ofNat (a % 65536) := UInt64.toNat_inj.mp (by
    rw [UInt64.toNat_and, ha, show (UInt64.ofNat 65535).toNat = 2 ^ 16 - 1 from rfl, Nat.and_two_pow_sub_one_eq_mod]
    exact (Nat.mod_eq_of_lt (by omega)).symm)
  exact congrArg UInt64.toInt64 h1
theorem k_lshr16 {a : Nat} (h : a < 2 ^ 62) : lN a >>> ((nI 16).toInt64 &&& 63) = lN (a / 65536) := by
  apply Int64.toInt_inj.mp
  have e : (lN a >>> ((nI 16).toInt64 &&& 63)).toInt = (lN a).toInt >>> 16 := BitVec.toInt_sshiftRight ..
  rw [e, Int.shiftRight_eq_div_pow, k_lI (by omega), k_lI (by omega)]
  rfl
theorem k_lceq {a b : Nat} (ha : a < 2 ^ 63) (hb : b < 2 ^ 63) : lg_cmp (lN a) (lN b) = 0 ↔ a = b := by rw [lg_cmp_eq]; exact pk_lEQ ha hb
theorem k_lcle {a b : Nat} (ha : a < 2 ^ 63) (hb : b < 2 ^ 63) : lg_cmp (lN a) (lN b) ≤ 0 ↔ a ≤ b := by rw [lg_cmp_le]; exact pk_lLE ha hb
theorem k_lclt {a b : Nat} (ha : a < 2 ^ 63) (hb : b < 2 ^ 63) : lg_cmp (lN a) (lN b) < 0 ↔ a < b := by rw [lg_cmp_lt]; exact pk_lLT ha hb
theorem k_lcgt {a b : Nat} (ha : a < 2 ^ 63) (hb : b < 2 ^ 63) : 0 < lg_cmp (lN a) (lN b) ↔ b < a := by rw [lg_cmp_gt]; exact pk_lLT hb ha
theorem k_lcge {a b : Nat} (ha : a < 2 ^ 63) (hb : b < 2 ^ 63) : 0 ≤ lg_cmp (lN a) (lN b) ↔ b ≤ a := by rw [lg_cmp_ge]; exact pk_lLE hb ha
def upN (F : Nat → Nat) (i v : Nat) : Nat → Nat := fun j => if j = i then v else F j
theorem upN_s {F : Nat → Nat} {i v : Nat} : upN F i v i = v := if_pos rfl
theorem upN_n {F : Nat → Nat} {i v j : Nat} (h : j ≠ i) : upN F i v j = F j := if_neg h
section KN
variable {p : Program} {l : Launch} {e : Env} {R : Room} {s : State} {m : MethodId} {args : Array Value} {below : List Frame} {meth : Method} {c : Code} {H : Heap} {locs : List Loc} {cells slots : Nat} {Q : State → Prop}
variable {cc : ByteArray} {pc : Nat} {ls : Array Slot} {rest st0 : List Value} {D : va_G} {cl : List vw_C} {ws : va_W} {tys : List (ClassId × FieldType)} {A : Nat → Prop} {H0 : Heap} {a : Nat}
theorem kv_lastN (hexec : p.tables.exec = Jvm.exec) (hb : c.code = cc) (hK : va_K D cl tys s) (hP : va_P D cl ws H) (hD : va_D A ws) (hS : va_S A H0 H locs) (q0 t0 : Nat) {cA : ClassId} {n : Nat} {F : Nat → Nat} (ha : ws[q0]? = some (a, .inl (cA, n, .inr (.inl (fun j9 => lN (F j9)))))) (ht : tys[t0]? = some (cA, .long)) {i x : Nat} (hi : i < n) (hn : n < 2 ^ 31) (hdg : decode cc pc = .ok (.lastore, 1))
    (kk : ∀ (H1 : Heap) (locs1 : List Loc), va_P D cl (ws.set q0 (a, .inl (cA, n, .inr (.inl (fun j9 => lN (upN F i x j9)))))) H1 → va_D A (ws.set q0 (a, .inl (cA, n, .inr (.inl (fun j9 => lN (upN F i x j9)))))) → va_S A H0 H1 locs1 → W p l e R s m args below meth c H1 locs1 cells slots Q (F0 m (pc + 1) ls rest)) : W p l e R s m args below meth c H locs cells slots Q (F0 m pc ls (.long (lN x) :: .int (nI i) :: .ref a :: rest)) := by
  refine kv_last hexec hb hK hP hD hS q0 t0 ha ht hi hn hdg (fun H1 l1 g eg h1 h2 h3 => ?_)
  have eg2 : g = fun j9 => lN (upN F i x j9) := by
    rw [eg]
    funext j
    by_cases hj : j = i
    · subst hj; rw [pk_uLs, upN_s]
    · rw [pk_uLn hj, upN_n hj]
  subst eg2
  exact kk H1 l1 h1 h2 h3
theorem kv_iastN (hexec : p.tables.exec = Jvm.exec) (hb : c.code = cc) (hK : va_K D cl tys s) (hP : va_P D cl ws H) (hD : va_D A ws) (hS : va_S A H0 H locs) (q0 t0 : Nat) {cA : ClassId} {n : Nat} {F : Nat → Nat} (ha : ws[q0]? = some (a, .inl (cA, n, .inl (fun j9 => nI (F j9))))) (ht : tys[t0]? = some (cA, .int)) {i x : Nat} (hi : i < n) (hn : n < 2 ^ 31) (hdg : decode cc pc = .ok (.iastore, 1))
    (kk : ∀ (H1 : Heap) (locs1 : List Loc), va_P D cl (ws.set q0 (a, .inl (cA, n, .inl (fun j9 => nI (upN F i x j9))))) H1 → va_D A (ws.set q0 (a, .inl (cA, n, .inl (fun j9 => nI (upN F i x j9))))) → va_S A H0 H1 locs1 → W p l e R s m args below meth c H1 locs1 cells slots Q (F0 m (pc + 1) ls rest)) : W p l e R s m args below meth c H locs cells slots Q (F0 m pc ls (.int (nI x) :: .int (nI i) :: .ref a :: rest)) := by
  refine kv_iast hexec hb hK hP hD hS q0 t0 ha ht hi hn hdg (fun H1 l1 g eg h1 h2 h3 => ?_)
  have eg2 : g = fun j9 => nI (upN F i x j9) := by
    rw [eg]
    funext j
    by_cases hj : j = i
    · subst hj; rw [pk_us, upN_s]
    · rw [pk_un hj, upN_n hj]
  subst eg2
  exact kk H1 l1 h1 h2 h3
end KN
/-- the sum of the digits F b .. F (b + n - 1), the lowest first -/
def kv (F : Nat → Nat) (b : Nat) : Nat → Nat
  | 0 => 0
  | n + 1 => kv F b n + F (b + n) * 65536 ^ n
theorem kv_ext {F G : Nat → Nat} {a b : Nat} : ∀ n, (∀ j, j < n → F (a + j) = G (b + j)) → kv F a n = kv G b n := by
  intro n
  induction n with
  | zero => intro _; rfl
  | succ n ih => intro h; simp only [kv]; rw [ih (fun j hj => h j (by omega)), h n (by omega)]
theorem kv_lt {F : Nat → Nat} {b : Nat} : ∀ n, (∀ j, j < n → F (b + j) < 65536) → kv F b n < 65536 ^ n := by
  intro n
  induction n with
  | zero => intro _; exact Nat.zero_lt_one
  | succ n ih =>
    intro h
    have h1 := ih (fun j hj => h j (by omega))
    have h2 := h n (by omega)
    have h3 : F (b + n) * 65536 ^ n ≤ 65535 * 65536 ^ n := Nat.mul_le_mul_right _ (by omega)
    simp only [kv]
    rw [Nat.pow_succ]
    omega
theorem kv_up_out {F : Nat → Nat} {b i v : Nat} (n : Nat) (h : i < b ∨ b + n ≤ i) : kv (upN F i v) b n = kv F b n := kv_ext n (fun j hj => upN_n (by omega))
theorem kv_up {F : Nat → Nat} {b i v : Nat} : ∀ n, i < n → kv (upN F (b + i) v) b n + F (b + i) * 65536 ^ i = kv F b n + v * 65536 ^ i := by
  intro n
  induction n with
  | zero => intro h; omega
  | succ n ih =>
    intro h
    simp only [kv]
    by_cases hn : i = n
    · subst hn
      rw [kv_up_out _ (Or.inr (Nat.le_refl _)), upN_s]
      omega
    · have := ih (by omega)
      rw [upN_n (show b + n ≠ b + i by omega)]
      omega
theorem kv_top {F : Nat → Nat} {b : Nat} : ∀ n i, i < n → F (b + i) * 65536 ^ i ≤ kv F b n := by
  intro n
  induction n with
  | zero => intro i h; omega
  | succ n ih =>
    intro i h
    simp only [kv]
    by_cases hn : i = n
    · subst hn; omega
    · have := ih i (by omega); omega
/-- equal digits above, a larger one here: the larger number -/
theorem kv_ge {F G : Nat → Nat} {a b : Nat} (hG : ∀ j, j < 16 → G (b + j) < 65536) : ∀ n, n ≤ 16 → ∀ d, d < n → (∀ j, d < j → j < n → F (a + j) = G (b + j)) → G (b + d) < F (a + d) → kv G b n ≤ kv F a n := by
  intro n
  induction n with
  | zero => intro _ d h; omega
  | succ n ih =>
    intro hn d hd he hlt
    simp only [kv]
    by_cases hdn : d = n
    · subst hdn
      have h1 := kv_lt (F := G) (b := b) d (fun j hj => hG j (by omega))
      have h2 : (G (b + d) + 1) * 65536 ^ d ≤ F (a + d) * 65536 ^ d := Nat.mul_le_mul_right _ hlt
      rw [Nat.add_mul] at h2
      omega
    · have h1 := ih (by omega) d (by omega) (fun j h3 h4 => he j h3 (by omega)) hlt
      rw [he n (by omega) (by omega)]
      omega
