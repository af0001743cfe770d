/-! BASE 5: the pure part of the reference's constructor: carrying, folding, taking away -/
theorem kv_succ (F : Nat → Nat) (b n : Nat) : kv F b (n + 1) = kv F b n + F (b + n) * 65536 ^ n := rfl
theorem ar_ks {Z Z6 Z7 f x g P K : Nat} (a1 : Z + f * P = Z6 + (f + x * g) * P) (h1 : Z6 = Z7 + x * K) : Z = Z7 + x * (K + g * P) := by
  rw [Nat.add_mul] at a1
  rw [Nat.mul_add, ← Nat.mul_assoc]
  omega
theorem ar_b {a q : Nat} (h : a < 65536 + q * 2 ^ 32) : a < 65536 + (q + 1) * 2 ^ 32 := Nat.lt_of_lt_of_le h (Nat.add_le_add_left (Nat.mul_le_mul_right _ (Nat.le_succ q)) _)
theorem ar_k0 {Z x : Nat} : Z = Z + x * 0 := by rw [Nat.mul_zero, Nat.add_zero]
theorem ar_kr {Z6 Z7 Z8 x K P : Nat} (a1 : Z7 + x * P = Z8) (h1 : Z6 = Z7 + x * K) (hK : K < P) : Z6 ≤ Z8 ∧ (0 < x → Z6 < Z8) := by
  have h2 : x * K ≤ x * P := Nat.mul_le_mul_left x (Nat.le_of_lt hK)
  refine ⟨by omega, fun h0 => ?_⟩
  have h3 : x * K < x * P := Nat.mul_lt_mul_of_pos_left hK h0
  omega
theorem ar_kz {Z6 Z7 Z8 x K P : Nat} (a1 : Z7 + x * P = Z8) (h1 : Z6 = Z7 + x * K) (hx : x = 0) : Z6 ≤ Z8 ∧ (0 < x → Z6 < Z8) := by
  subst hx
  rw [Nat.zero_mul] at a1 h1
  exact ⟨by omega, fun h => absurd h (Nat.lt_irrefl _)⟩
theorem ar_kt0 {A : Nat} {o P : Int} (ho : o = 0) : (A : Int) + o * P = A - ((0 : Nat) : Int) := by rw [ho]; simp
theorem ar_kt {A' A B0 Bd f r v P : Nat} {o o2 : Int} (a1 : A' + f * P = A + r * P) (e : (r : Int) + 65536 * o2 = f - v + o) (h3 : (A : Int) + o * (P : Int) = (B0 : Int) - Bd) : (A' : Int) + o2 * ((P * 65536 : Nat) : Int) = (B0 : Int) - ((Bd + v * P : Nat) : Int) := by
  have a2 : (A' : Int) + (f : Int) * P = A + (r : Int) * P := by exact_mod_cast a1
  have a5 : ((r : Int) + 65536 * o2) * (P : Int) = ((f : Int) - v + o) * P := by rw [e]
  rw [Int.add_mul, Int.add_mul, Int.sub_mul, Int.mul_assoc] at a5
  have b1 : o2 * ((P : Int) * 65536) = 65536 * (o2 * P) := by rw [← Int.mul_assoc, Int.mul_comm _ 65536]
  rw [Int.natCast_mul, Int.natCast_add, Int.natCast_mul]
  rw [show ((65536 : Nat) : Int) = 65536 from rfl, b1]
  omega
theorem ar_ke {A3 A4 M P : Nat} {o : Int} (ho : o = 0 ∨ o = -1) (h : (A3 : Int) + o * (P : Int) = (A4 : Int) - M) (h5 : A3 < P) (hM : 0 < M) (hge : M ≤ A4) : A3 < A4 := by
  rcases ho with rfl | rfl
  · rw [Int.zero_mul] at h; omega
  · rw [Int.neg_mul, Int.one_mul] at h; omega
/-- behind i steps of carry -/
def kc (F G : Nat → Nat) (i : Nat) : Prop := kv G 0 40 = kv F 0 40 ∧ (∀ j, j < i → G j < 65536) ∧ G i < 2 ^ 51 ∧ ∀ j, i < j → j < 40 → G j = F j
theorem kc_0 {F : Nat → Nat} (hF : ∀ i, i < 40 → F i < 2 ^ 50) : kc F F 0 := ⟨rfl, fun j h => absurd h (Nat.not_lt_zero _), by have := hF 0 (by decide); omega, fun _ _ _ => rfl⟩
theorem kc_step {F G : Nat → Nat} {i : Nat} (hF : ∀ i, i < 40 → F i < 2 ^ 50) (h : kc F G i) (hi : i < 39) : kc F (upN (upN G (i + 1) (G (i + 1) + G i / 65536)) i (upN G (i + 1) (G (i + 1) + G i / 65536) i % 65536)) (i + 1) := by
  obtain ⟨h1, h2, h3, h4⟩ := h
  have e1 : upN G (i + 1) (G (i + 1) + G i / 65536) i = G i := upN_n (by omega)
  refine ⟨?_, fun j hj => ?_, ?_, fun j hj hj2 => ?_⟩
  · have a1 := kv_up (F := G) (b := 0) (i := i + 1) (v := G (i + 1) + G i / 65536) 40 (by omega)
    have a2 := kv_up (F := upN G (i + 1) (G (i + 1) + G i / 65536)) (b := 0) (i := i) (v := G i % 65536) 40 (by omega)
    simp only [Nat.zero_add] at a1 a2
    rw [e1] at a2 ⊢
    have a3 : (G (i + 1) + G i / 65536) * 65536 ^ (i + 1) = G (i + 1) * 65536 ^ (i + 1) + G i / 65536 * 65536 * 65536 ^ i := by rw [Nat.add_mul, Nat.pow_succ, Nat.mul_comm (65536 ^ i) 65536, Nat.mul_assoc (G i / 65536)]
    have a4 : G i * 65536 ^ i = G i / 65536 * 65536 * 65536 ^ i + G i % 65536 * 65536 ^ i := by rw [← Nat.add_mul]; congr 1; omega
    omega
  · by_cases hji : j = i
    · subst hji; rw [upN_s]; exact Nat.mod_lt _ (by decide)
    · rw [upN_n hji, upN_n (by omega)]; exact h2 j (by omega)
  · rw [upN_n (by omega), upN_s]
    have := h4 (i + 1) (by omega) (by omega)
    have := hF (i + 1) (by omega)
    omega
  · rw [upN_n (by omega), upN_n (by omega)]; exact h4 j (by omega) hj2
theorem kc_end {F G : Nat → Nat} {i : Nat} (h : kc F G i) (hi : i = 39) : kv G 0 40 = kv F 0 40 ∧ (∀ j, j < 39 → G j < 65536) ∧ G 39 < 2 ^ 51 := by subst hi; exact ⟨h.1, h.2.1, h.2.2.1⟩
/-- a number below the top place's weight has nothing there -/
theorem kd_all {F : Nat → Nat} (h : kv F 0 40 < 65536 ^ 39) (h2 : ∀ j, j < 39 → F j < 65536) : ∀ j, j < 40 → F j < 65536 := by
  intro j hj
  by_cases h39 : j = 39
  · subst h39
    have h3 := kv_top (F := F) (b := 0) 40 39 (by decide)
    simp only [Nat.zero_add] at h3
    have : F 39 = 0 := by
      rcases Nat.eq_zero_or_pos (F 39) with h4 | h4
      · exact h4
      · have : 1 * 65536 ^ 39 ≤ F 39 * 65536 ^ 39 := Nat.mul_le_mul_right _ h4
        omega
    omega
  · exact h2 j (by omega)
/-- behind d steps of folding the place k, whose digit x was taken out of F8 (then it was F7) -/
def kr (F7 F6 G : Nat → Nat) (x B k d : Nat) : Prop := kv F6 0 40 = kv F7 0 40 + x * kv G B d ∧ (∀ i, i < 16 → F6 i < 65536 + (k - 16 + 1) * 2 ^ 32) ∧ (∀ i, 16 ≤ i → i < 40 → F6 i = F7 i) ∧ ∀ i, d ≤ i → i < 16 → F6 i = F7 i
theorem kr_0 {F7 G : Nat → Nat} {x B k : Nat} (hb : ∀ i, i < 16 → F7 i < 65536 + (k - 16) * 2 ^ 32) : kr F7 F7 G x B k 0 := ⟨by rw [show kv G B 0 = 0 from rfl, Nat.mul_zero, Nat.add_zero], fun i hi => ar_b (hb i hi), fun _ _ _ => rfl, fun _ _ _ => rfl⟩
theorem kr_step {F7 F6 G : Nat → Nat} {x B k d : Nat} (hb : ∀ i, i < 16 → F7 i < 65536 + (k - 16) * 2 ^ 32) (hx : x < 65536) (hG : G (B + d) < 65536) (h : kr F7 F6 G x B k d) (hd : d < 16) : kr F7 (upN F6 d (F6 d + x * G (B + d))) G x B k (d + 1) := by
  obtain ⟨h1, h2, h3, h4⟩ := h
  have hm : x * G (B + d) ≤ 65535 * 65535 := Nat.mul_le_mul (by omega) (by omega)
  refine ⟨?_, fun i hi => ?_, fun i hi hi2 => ?_, fun i hi hi2 => ?_⟩
  · have a1 := kv_up (F := F6) (b := 0) (i := d) (v := F6 d + x * G (B + d)) 40 (by omega)
    simp only [Nat.zero_add] at a1
    rw [kv_succ G B d]
    exact ar_ks a1 h1
  · by_cases hid : i = d
    · subst hid; rw [upN_s, h4 i (Nat.le_refl _) hi]
      have := hb i hi
      have h5 : (k - 16 + 1) * 2 ^ 32 = (k - 16) * 2 ^ 32 + 2 ^ 32 := by rw [Nat.add_mul, Nat.one_mul]
      omega
    · rw [upN_n hid]; exact h2 i hi
  · rw [upN_n (by omega)]; exact h3 i hi hi2
  · rw [upN_n (by omega)]; exact h4 i (by omega) hi2
theorem kr_end' {F8 F6 G : Nat → Nat} {B k d : Nat} (hK : kv G B d < 65536 ^ k ∨ F8 k = 0) (h1 : kv F6 0 40 = kv (upN F8 k 0) 0 40 + F8 k * kv G B d) (a1 : kv (upN F8 k 0) 0 40 + F8 k * 65536 ^ k = kv F8 0 40) : kv F6 0 40 ≤ kv F8 0 40 ∧ (0 < F8 k → kv F6 0 40 < kv F8 0 40) := by
  generalize kv F6 0 40 = Z6 at *
  generalize kv (upN F8 k 0) 0 40 = Z7 at *
  generalize kv F8 0 40 = Z8 at *
  generalize kv G B d = K at *
  generalize 65536 ^ k = P at *
  rcases hK with h | h
  · exact ar_kr a1 h1 h
  · exact ar_kz a1 h1 h
theorem kr_up {F8 : Nat → Nat} {k : Nat} (hk2 : k < 40) : kv (upN F8 k 0) 0 40 + F8 k * 65536 ^ k = kv F8 0 40 := by
  have a1 := kv_up (F := F8) (b := 0) (i := k) (v := 0) 40 hk2
  rw [Nat.zero_add, Nat.zero_mul, Nat.add_zero] at a1
  exact a1
theorem kr_lt {G : Nat → Nat} {B k d : Nat} (hk : 16 ≤ k) (hd : d = 16) (hG : ∀ j, j < 16 → G (B + j) < 65536) : kv G B d < 65536 ^ k :=
  Nat.lt_of_lt_of_le (kv_lt (F := G) (b := B) d (fun j hj => hG j (by omega))) (Nat.pow_le_pow_right (by decide) (by omega))
/-- the place k is folded: the number has not grown; it has fallen if the digit wasn't 0 -/
theorem kr_end {F8 F6 G : Nat → Nat} {B k d : Nat} (hk : 16 ≤ k) (hk2 : k < 40) (hG : ∀ j, j < 16 → G (B + j) < 65536) (h : kr (upN F8 k 0) F6 G (F8 k) B k d) (hd : d = 16 ∨ F8 k = 0) : kv F6 0 40 ≤ kv F8 0 40 ∧ (0 < F8 k → kv F6 0 40 < kv F8 0 40) :=
  kr_end' (hd.elim (fun e => Or.inl (kr_lt hk e hG)) Or.inr) h.1 (kr_up hk2)
/-- the digits of a row of folds -/
theorem kG_row {G : Nat → Nat} {mm k : Nat} (hG : ∀ i, i < 576 → G i < 65536) (hm : mm < 2) (hk : k < 34) (hk1 : 16 ≤ k) : ∀ j, j < 16 → G (288 * mm + 16 * (k - 16) + j) < 65536 := fun j hj => hG _ (by omega)
/-- bounds of the digits while places are folded -/
def kb (F : Nat → Nat) (k : Nat) : Prop := (∀ i, i < 16 → F i < 65536 + (k - 16) * 2 ^ 32) ∧ ∀ i, 16 ≤ i → i < 40 → F i < 65536
theorem kb_0 {F : Nat → Nat} (h : ∀ i, i < 40 → F i < 65536) : kb F 16 := ⟨fun i hi => by have := h i (by omega); omega, fun i _ h2 => h i h2⟩
theorem kb_up {F : Nat → Nat} {k : Nat} (h : kb F k) (hk : 16 ≤ k) : ∀ i, i < 16 → upN F k 0 i < 65536 + (k - 16) * 2 ^ 32 := fun i hi => by rw [upN_n (by omega)]; exact h.1 i hi
theorem kb_next {F8 F6 G : Nat → Nat} {x B k d : Nat} (h8 : kb F8 k) (hk : 16 ≤ k) (h : kr (upN F8 k 0) F6 G x B k d) : kb F6 (k + 1) := by
  refine ⟨fun i hi => ?_, fun i hi hi2 => ?_⟩
  · have := h.2.1 i hi
    have e : k + 1 - 16 = k - 16 + 1 := by omega
    rw [e]; exact this
  · rw [h.2.2.1 i hi hi2]
    by_cases hik : i = k
    · subst hik; rw [upN_s]; decide
    · rw [upN_n hik]; exact h8.2 i hi hi2
theorem kb_50 {F : Nat → Nat} {k : Nat} (h : kb F k) (hk : k ≤ 34) : ∀ i, i < 40 → F i < 2 ^ 50 := by
  intro i hi
  by_cases h16 : i < 16
  · have := h.1 i h16
    have : (k - 16) * 2 ^ 32 ≤ 18 * 2 ^ 32 := Nat.mul_le_mul_right _ (by omega)
    omega
  · have := h.2 i (by omega) hi; omega
/-- a digit less a digit and what was borrowed: a digit, and what is borrowed -/
theorem k_sub16 {a b : Nat} {o : Int64} (ha : a < 65536) (hb : b < 65536) (ho : o = 0 ∨ o = -1) : ∃ (r : Nat) (o2 : Int64), r < 65536 ∧ (o2 = 0 ∨ o2 = -1) ∧ (lN a - lN b + o) &&& lN 65535 = lN r ∧ (lN a - lN b + o) >>> ((nI 16).toInt64 &&& 63) = o2 ∧ (r : Int) + 65536 * o2.toInt = (a : Int) - b + o.toInt := by
  have key : ∀ z : Int, -65537 ≤ z → z < 65536 → ∃ (r : Nat) (o2 : Int64), r < 65536 ∧ (o2 = 0 ∨ o2 = -1) ∧ Int64.ofInt z &&& lN 65535 = lN r ∧ Int64.ofInt z >>> ((nI 16).toInt64 &&& 63) = o2 ∧ (r : Int) + 65536 * o2.toInt = z ∨ z = -65537 := by
    intro z h1 h2
    by_cases h0 : z = -65537
    · exact ⟨0, 0, Or.inr h0⟩
    · by_cases hz : 0 ≤ z
      · obtain ⟨n, rfl⟩ : ∃ n : Nat, z = (n : Int) := ⟨z.toNat, by omega⟩
        have e : Int64.ofInt (n : Int) = lN n := rfl
        refine ⟨n, 0, Or.inl ⟨by omega, Or.inl rfl, ?_, ?_, ?_⟩⟩
        · rw [e, k_land16 (by omega), Nat.mod_eq_of_lt (by omega)]
        · rw [e, k_lshr16 (by omega)]
          have : n / 65536 = 0 := Nat.div_eq_of_lt (by omega)
          rw [this]; rfl
        · have : (0 : Int64).toInt = 0 := rfl
          rw [this]; omega
      · obtain ⟨n, rfl⟩ : ∃ n : Nat, z = -(n : Int) := ⟨(-z).toNat, by omega⟩
        have e : Int64.ofInt (-(n : Int)) = lN (2 ^ 64 - n) := by
          apply Int64.toBitVec_inj.mp
          show BitVec.ofInt 64 (-(n : Int)) = BitVec.ofNat 64 (2 ^ 64 - n)
          apply BitVec.eq_of_toNat_eq
          rw [BitVec.toNat_ofInt, BitVec.toNat_ofNat]
          omega
        have et : (Int64.ofInt (-(n : Int))).toInt = -(n : Int) := Int64.toInt_ofInt_of_le (by omega) (by omega)
        refine ⟨(2 ^ 64 - n) % 65536, -1, Or.inl ⟨Nat.mod_lt _ (by decide), Or.inr rfl, ?_, ?_, ?_⟩⟩
        · rw [e]; exact k_land16 (by omega)
        · apply Int64.toInt_inj.mp
          have e2 : (Int64.ofInt (-(n : Int)) >>> ((nI 16).toInt64 &&& 63)).toInt = (Int64.ofInt (-(n : Int))).toInt >>> 16 := BitVec.toInt_sshiftRight ..
          rw [e2, et, Int.shiftRight_eq_div_pow]
          have : (-1 : Int64).toInt = -1 := rfl
          rw [this]
          show -(n : Int) / 65536 = -1
          omega
        · have : (-1 : Int64).toInt = -1 := rfl
          rw [this]; omega
  have hz : ∃ z : Int, lN a - lN b + o = Int64.ofInt z ∧ z = (a : Int) - b + o.toInt := by
    have ea : lN a = Int64.ofInt (a : Int) := rfl
    have eb : lN b = Int64.ofInt (b : Int) := rfl
    rcases ho with rfl | rfl
    · refine ⟨(a : Int) - b + 0, ?_, rfl⟩
      rw [ea, eb, ← Int64.ofInt_sub]
      have : (0 : Int64) = Int64.ofInt 0 := rfl
      rw [this, ← Int64.ofInt_add]
    · refine ⟨(a : Int) - b + -1, ?_, rfl⟩
      rw [ea, eb, ← Int64.ofInt_sub]
      have : (-1 : Int64) = Int64.ofInt (-1) := rfl
      rw [this, ← Int64.ofInt_add]
  obtain ⟨z, e1, e2⟩ := hz
  have ho' : o.toInt = 0 ∨ o.toInt = -1 := by rcases ho with rfl | rfl; exact Or.inl rfl; exact Or.inr rfl
  obtain ⟨r, o2, h⟩ := key z (by omega) (by omega)
  rcases h with ⟨h1, h2, h3, h4, h5⟩ | h
  · exact ⟨r, o2, h1, h2, by rw [e1]; exact h3, by rw [e1]; exact h4, by rw [h5]; exact e2⟩
  · omega
/-- behind d steps of taking the modulus (V from B on) away from F4 -/
def kt (F4 F3 V : Nat → Nat) (B d : Nat) (o : Int64) : Prop := (o = 0 ∨ o = -1) ∧ (∀ i, i < 16 → F3 i < 65536) ∧ (kv F3 0 16 : Int) + o.toInt * ((65536 ^ d : Nat) : Int) = (kv F4 0 16 : Int) - (kv V B d : Int) ∧ ∀ i, d ≤ i → i < 16 → F3 i = F4 i
theorem kt_0 {F4 V : Nat → Nat} {B : Nat} (h : ∀ i, i < 16 → F4 i < 65536) : kt F4 F4 V B 0 (lN 0) := ⟨Or.inl rfl, h, ar_kt0 (show (lN 0).toInt = 0 from rfl), fun _ _ _ => rfl⟩
theorem kt_step {F4 F3 V : Nat → Nat} {B d r : Nat} {o o2 : Int64} (h : kt F4 F3 V B d o) (hd : d < 16) (hr : r < 65536) (ho2 : o2 = 0 ∨ o2 = -1) (e : (r : Int) + 65536 * o2.toInt = (F3 d : Int) - V (B + d) + o.toInt) : kt F4 (upN F3 d r) V B (d + 1) o2 := by
  obtain ⟨h1, h2, h3, h4⟩ := h
  refine ⟨ho2, fun i hi => ?_, ?_, fun i hi hi2 => ?_⟩
  · by_cases hid : i = d
    · subst hid; rw [upN_s]; exact hr
    · rw [upN_n hid]; exact h2 i hi
  · have a1 := kv_up (F := F3) (b := 0) (i := d) (v := r) 16 hd
    simp only [Nat.zero_add] at a1
    rw [kv_succ V B d, Nat.pow_succ]
    exact ar_kt a1 e h3
  · rw [upN_n (by omega)]; exact h4 i (by omega) hi2
theorem kt_end' {A3 A4 M P : Nat} {o : Int64} (h1 : o = 0 ∨ o = -1) (h3 : (A3 : Int) + o.toInt * (P : Int) = (A4 : Int) - (M : Int)) (h5 : A3 < P) (hM : 0 < M) (hge : M ≤ A4) : A3 < A4 :=
  ar_ke (h1.elim (fun h => Or.inl (by rw [h]; rfl)) (fun h => Or.inr (by rw [h]; rfl))) h3 h5 hM hge
theorem kt_lt {F3 : Nat → Nat} {d : Nat} (hd : d = 16) (h : ∀ i, i < 16 → F3 i < 65536) : kv F3 0 16 < 65536 ^ d := by
  subst hd
  exact kv_lt (F := F3) (b := 0) 16 (fun j hj => by rw [Nat.zero_add]; exact h j hj)
theorem kt_end {F4 F3 V : Nat → Nat} {B d : Nat} {o : Int64} (h : kt F4 F3 V B d o) (hd : d = 16) (hM : 0 < kv V B 16) (hge : kv V B 16 ≤ kv F4 0 16) : kv F3 0 16 < kv F4 0 16 := by
  obtain ⟨h1, h2, h3, -⟩ := h
  have h5 := kt_lt hd h2
  have hM' : 0 < kv V B d := by rw [hd]; exact hM
  have hge' : kv V B d ≤ kv F4 0 16 := by rw [hd]; exact hge
  exact kt_end' h1 h3 h5 hM' hge'
theorem k_m1 (x : Int32) : x + Int32.ofInt (-1) = x - 1 := by rw [Int32.sub_eq_add_neg]; rfl
theorem k_pd {d : Nat} (h : 0 < d) : nI d - 1 = nI (d - 1) := by
  have := nI_pred (d - 1)
  rw [show d - 1 + 1 = d by omega] at this
  exact this
theorem k_pos {d : Nat} (hd : d ≤ 16) (c : ¬ nI d - 1 < 0) : 0 < d := by
  rcases Nat.eq_zero_or_pos d with h | h
  · subst h; exact absurd (by decide) c
  · exact h
theorem k_neg {d : Nat} (hd : d ≤ 16) (c : nI d - 1 < 0) : d = 0 := by
  rcases Nat.eq_zero_or_pos d with h | h
  · exact h
  · rw [k_pd h] at c; exact absurd c (nI_pos (by omega))
