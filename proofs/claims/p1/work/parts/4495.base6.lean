/-! BASE 6: the pure part of the reference's constructor: its tables -/
theorem upN_all {F : Nat → Nat} {n i v b : Nat} (h : ∀ j, j < n → F j < b) (hv : v < b) : ∀ j, j < n → upN F i v j < b := by
  intro j hj
  by_cases e : j = i
  · subst e; rw [upN_s]; exact hv
  · rw [upN_n e]; exact h j hj
theorem upN_one {F : Nat → Nat} {d v b : Nat} (h : ∀ j, j < d → F j < b) (hv : v < b) : ∀ j, j < d + 1 → upN F d v j < b := by
  intro j hj
  by_cases e : j = d
  · subst e; rw [upN_s]; exact hv
  · rw [upN_n e]; exact h j (by omega)
theorem upN_39 {F : Nat → Nat} {d : Nat} (h : 39 < d → F 39 = 0) : 39 < d + 1 → upN F d 0 39 = 0 := by
  intro hj
  by_cases e : 39 = d
  · subst e; rw [upN_s]
  · rw [upN_n e]; exact h (by omega)
theorem kv_39 {F : Nat → Nat} (h : ∀ j, j < 40 → F j < 65536) (h0 : F 39 = 0) : kv F 0 40 < 65536 ^ 39 := by
  have h1 := kv_lt (F := F) (b := 0) 39 (fun j hj => by rw [Nat.zero_add]; exact h j (by omega))
  have e : kv F 0 40 = kv F 0 39 + F (0 + 39) * 65536 ^ 39 := kv_succ F 0 39
  rw [e, Nat.zero_add, h0, Nat.zero_mul, Nat.add_zero]
  exact h1
def km (V P Q : Nat → Nat) (d : Nat) : Prop := ∀ j, j < d → V j = P (15 - j) ∧ V (16 + j) = Q (15 - j)
theorem km_0 {V P Q : Nat → Nat} : km V P Q 0 := fun j hj => absurd hj (Nat.not_lt_zero _)
theorem km_step {V P Q : Nat → Nat} {d x y : Nat} (hd : d < 16) (h : km V P Q d) : km (upN (upN (upN (upN V (0 + d) (P (15 - d))) (16 + d) (Q (15 - d))) (3200 + d) x) (3216 + d) y) P Q (d + 1) := by
  intro j hj
  refine ⟨?_, ?_⟩
  · rw [upN_n (by omega), upN_n (by omega), upN_n (by omega)]
    by_cases e : j = d
    · subst e; rw [Nat.zero_add, upN_s]
    · rw [upN_n (by omega)]; exact (h j (by omega)).1
  · rw [upN_n (by omega), upN_n (by omega)]
    by_cases e : j = d
    · subst e; rw [upN_s]
    · rw [upN_n (by omega), upN_n (by omega)]; exact (h j (by omega)).2
theorem km_end {V P Q : Nat → Nat} {d : Nat} (h : km V P Q d) (hd : d = 16) (hP : ∀ i, i < 16 → P i < 65536) (hQ : ∀ i, i < 16 → Q i < 65536) (hP0 : P 0 = 65535) (hQ0 : Q 0 = 65535) : (∀ i, i < 32 → upN V 32 1 i < 65536) ∧ ∀ mm, mm < 2 → 0 < kv (upN V 32 1) (16 * mm) 16 := by
  subst hd
  refine ⟨fun i hi => ?_, fun mm hm => ?_⟩
  · rw [upN_n (by omega)]
    by_cases e : i < 16
    · rw [(h i e).1]; exact hP _ (by omega)
    · have := (h (i - 16) (by omega)).2
      rw [show 16 + (i - 16) = i by omega] at this
      rw [this]; exact hQ _ (by omega)
  · have h1 := kv_top (F := upN V 32 1) (b := 16 * mm) 16 15 (by decide)
    have h2 : upN V 32 1 (16 * mm + 15) = 65535 := by
      rw [upN_n (by omega)]
      rcases (show mm = 0 ∨ mm = 1 by omega) with rfl | rfl
      · have := (h 15 (by decide)).1; rw [show 16 * 0 + 15 = 15 from rfl, this]; exact hP0
      · have := (h 15 (by decide)).2; rw [show 16 * 1 + 15 = 16 + 15 from rfl, this]; exact hQ0
    rw [h2] at h1
    exact Nat.lt_of_lt_of_le (by decide) h1
