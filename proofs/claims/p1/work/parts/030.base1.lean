/-! BASE 1: numbers -/
theorem k_add (a b : Nat) {n : Nat} (h : a + b = n) : nI a + nI b = nI n := by rw [← h]; exact nI_add a b
theorem k_mul (a b : Nat) {n : Nat} (h : a * b = n) : nI a * nI b = nI n := by rw [← h]; exact pk_mul a b
theorem k_incn (n k : Nat) : nI n + Int32.ofInt (k : Int) = nI (n + k) := nI_add n k
theorem k_toI {a : Nat} (h : a < 2 ^ 31) : (nI a).toInt = (a : Int) := nI_toInt h
/-- a number below an int, told by Int -/
theorem k_le {x : Int32} {a : Nat} (c : x ≤ nI a) (h : a < 2 ^ 31) : x.toInt ≤ (a : Int) := by
  have := Int32.le_iff_toInt_le.mp c
  rw [nI_toInt h] at this
  exact this
theorem k_nle {x : Int32} {a : Nat} (c : ¬ x ≤ nI a) (h : a < 2 ^ 31) : (a : Int) < x.toInt := by
  have := mt Int32.le_iff_toInt_le.mpr c
  rw [nI_toInt h] at this
  omega
theorem k_lt {x : Int32} {a : Nat} (c : x < nI a) (h : a < 2 ^ 31) : x.toInt < (a : Int) := by
  have := Int32.lt_iff_toInt_lt.mp c
  rw [nI_toInt h] at this
  exact this
theorem k_nlt {x : Int32} {a : Nat} (c : ¬ x < nI a) (h : a < 2 ^ 31) : (a : Int) ≤ x.toInt := by
  have := mt Int32.lt_iff_toInt_lt.mpr c
  rw [nI_toInt h] at this
  omega
theorem k_gt {x : Int32} {a : Nat} (c : nI a < x) (h : a < 2 ^ 31) : (a : Int) < x.toInt := by
  have := Int32.lt_iff_toInt_lt.mp c
  rw [nI_toInt h] at this
  exact this
theorem k_ngt {x : Int32} {a : Nat} (c : ¬ nI a < x) (h : a < 2 ^ 31) : x.toInt ≤ (a : Int) := by
  have := mt Int32.lt_iff_toInt_lt.mpr c
  rw [nI_toInt h] at this
  omega
theorem k_of {x : Int32} {n : Nat} (h0 : 0 ≤ x.toInt) (h1 : x.toInt ≤ (n : Int)) (hn : n < 2 ^ 31) : ∃ j : Nat, j ≤ n ∧ x = nI j :=
  ⟨x.toInt.toNat, by omega, Int32.toInt_inj.mp (by rw [nI_toInt (by omega)]; omega)⟩
/-- what feed answers on a new object -/
def kf (x : Int32) : Int32 := if x < 0 ∨ nI 20 < x then -1 else x
theorem k_f1 {x : Int32} (c : x < 0) : kf x = -1 := if_pos (Or.inl c)
theorem k_f2 {x : Int32} (c : nI 20 < x) : kf x = -1 := if_pos (Or.inr c)
theorem kf_in {x : Int32} (c : ¬ x < 0) (d : ¬ nI 20 < x) : kf x = x := if_neg (fun h => h.elim c d)
theorem k_feed {x : Int32} (c : ¬ x < 0) (d : ¬ nI 20 < x) : ∃ j : Nat, j ≤ 20 ∧ x = nI j :=
  k_of (by have := k_nlt (a := 0) c (by decide); omega) (by have := k_ngt d (by decide); omega) (by decide)
theorem k_tape {x : Int32} (c : ¬ x < 0) (d : ¬ nI 20 < x) : nI 0 + x ≤ nI 300 := by
  obtain ⟨j, hj, rfl⟩ := k_feed c d
  rw [nI_add]
  exact nI_le (by omega) (by decide)
theorem k_subI {x : Int32} {j k : Nat} (h : x = nI j) (hj : j ≤ 20) (hk : k ≤ 20) : (x - nI k).toInt = (j : Int) - (k : Int) := by
  rw [h]
  exact pk_sub_toInt (by omega) (by omega)
theorem k_draw {x y : Int32} (c1 : ¬ x < nI 2) (c2 : ¬ y < x) (c3 : ¬ nI 8 < y) : ∃ j : Nat, 2 ≤ j ∧ j ≤ 8 ∧ x = nI j := by
  have h1 := k_nlt c1 (by decide)
  have h3 := k_ngt c3 (by decide)
  have h2 : x.toInt ≤ y.toInt := by
    have := mt Int32.lt_iff_toInt_lt.mpr c2
    omega
  obtain ⟨j, hj, rfl⟩ := k_of (x := x) (n := 8) (by omega) (by omega) (by decide)
  rw [nI_toInt (by omega)] at h1
  exact ⟨j, by omega, hj, rfl⟩
theorem k_draw0 {x : Int32} (h : ∃ j : Nat, 2 ≤ j ∧ j ≤ 8 ∧ x = nI j) : ¬ nI 0 = x * nI 32 := by
  obtain ⟨j, h1, h2, rfl⟩ := h
  rw [pk_mul]
  intro q
  have := (nI_eq (a := 0) (b := j * 32) (by decide) (by omega)).mp q
  omega
theorem k_one {x : Int32} (c : ¬ x < nI 1) : nI 0 < x := by
  have h1 := k_nlt c (by decide)
  rw [Int32.lt_iff_toInt_lt, nI_toInt (by decide)]
  omega
theorem k_ge0 {x : Int32} (c : ¬ x < 0) : nI 0 ≤ x := by
  have h1 := k_nlt (a := 0) c (by decide)
  rw [Int32.le_iff_toInt_le, nI_toInt (by decide)]
  omega
theorem k_is8 {r x : Int32} (h : r = if x = nI 8 then nI 1 else nI 0) (c : ¬ r = 0) : x = nI 8 := by
  by_cases q : x = nI 8
  · exact q
  · rw [if_neg q] at h; exact absurd h c
theorem k_not8 {r x : Int32} (h : r = if x = nI 8 then nI 1 else nI 0) (c : r = 0) : nI 0 = if x = nI 8 then nI 32 else nI 0 := by
  by_cases q : x = nI 8
  · rw [if_pos q, c] at h; exact absurd h (by decide)
  · rw [if_neg q]
theorem k_draw1 {x : Int32} (h : ∃ j : Nat, 2 ≤ j ∧ j ≤ 8 ∧ x = nI j) : ¬ nI 0 = nI 32 * x := by
  obtain ⟨j, h1, h2, rfl⟩ := h
  rw [pk_mul]
  intro q
  have := (nI_eq (a := 0) (b := 32 * j) (by decide) (by omega)).mp q
  omega
