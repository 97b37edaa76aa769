def gbt (x : Int64) (i : Nat) : Bool := x.toBitVec.toNat.testBit i
def cntB : Nat → (Nat → Bool) → Nat
  | 0, _ => 0
  | k + 1, p => (if p k = true then 1 else 0) + cntB k p
theorem cntB_shift : ∀ (k : Nat) (p : Nat → Bool), cntB (k + 1) p = (if p 0 = true then 1 else 0) + cntB k (fun i => p (i + 1)) := by
  intro k
  induction k with
  | zero => intro p; rfl
  | succ k ih =>
    intro p
    rw [cntB, ih p]
    show _ = _ + ((if p (k + 1) = true then 1 else 0) + cntB k (fun i => p (i + 1)))
    omega
theorem bcn_cnt : ∀ (k x : Nat), bcn k x = cntB k (fun i => x.testBit i) := by
  intro k
  induction k with
  | zero => intro x; rfl
  | succ k ih =>
    intro x
    rw [cntB_shift, bcn, ih]
    congr 1
    · rw [Nat.testBit_zero]
      rcases Nat.mod_two_eq_zero_or_one x with h | h <;> simp [h]
    · congr 1
      funext i
      rw [Nat.testBit_succ]
theorem pcl_cnt (x : Int64) : pcl x = cntB 64 (gbt x) := bcn_cnt 64 _
theorem cntB_congr : ∀ {k : Nat} {p q : Nat → Bool}, (∀ i, i < k → p i = q i) → cntB k p = cntB k q := by
  intro k
  induction k with
  | zero => intro p q _; rfl
  | succ k ih =>
    intro p q h
    rw [cntB, cntB, h k (Nat.lt_succ_self k), ih (fun i hi => h i (by omega))]
theorem cntB_false : ∀ (k : Nat), cntB k (fun _ => false) = 0 := by
  intro k
  induction k with
  | zero => rfl
  | succ k ih => rw [cntB, ih]; rfl
theorem cntB_lt : ∀ (k j : Nat), j ≤ k → cntB k (fun i => decide (i < j)) = j := by
  intro k
  induction k with
  | zero => intro j h; have : j = 0 := by omega
            subst this; rfl
  | succ k ih =>
    intro j h
    rw [cntB]
    by_cases e : j = k + 1
    · subst e
      have h2 : cntB k (fun i => decide (i < k + 1)) = cntB k (fun i => decide (i < k)) := cntB_congr (fun i hi => by simp; omega)
      rw [h2, ih k (Nat.le_refl k)]
      simp
      omega
    · rw [ih j (by omega), if_neg (by simp; omega)]
      omega
theorem cntB_len : ∀ (k : Nat) (p : Nat → Bool), cntB k p = ((List.range k).filter p).length := by
  intro k
  induction k with
  | zero => intro p; rfl
  | succ k ih =>
    intro p
    rw [cntB, ih, List.range_succ, List.filter_append, List.length_append]
    by_cases h : p k = true
    · simp [h]; omega
    · simp [h]
theorem gbt_and (x y : Int64) (i : Nat) : gbt (x &&& y) i = (gbt x i && gbt y i) := by
  unfold gbt
  rw [Int64.toBitVec_and, BitVec.toNat_and, Nat.testBit_and]
theorem gbt_or (x y : Int64) (i : Nat) : gbt (x ||| y) i = (gbt x i || gbt y i) := by
  unfold gbt
  rw [Int64.toBitVec_or, BitVec.toNat_or, Nat.testBit_or]
theorem gbt_big (x : Int64) {i : Nat} (h : 64 ≤ i) : gbt x i = false := by
  unfold gbt
  exact Nat.testBit_lt_two_pow (Nat.lt_of_lt_of_le x.toBitVec.isLt (Nat.pow_le_pow_right (by decide) h))
theorem gbt_not (x : Int64) {i : Nat} (h : i < 64) : gbt (x ^^^ (-1)) i = !(gbt x i) := by
  unfold gbt
  rw [Int64.toBitVec_xor, BitVec.toNat_xor, Nat.testBit_xor]
  have : (-1 : Int64).toBitVec.toNat = 2 ^ 64 - 1 := by decide
  rw [this, Nat.testBit_two_pow_sub_one]
  simp [h]
theorem gbt_0 (i : Nat) : gbt 0 i = false := by
  unfold gbt
  show (0 : Nat).testBit i = false
  exact Nat.zero_testBit i
theorem gbt_ext {x y : Int64} (h : ∀ i, i < 64 → gbt x i = gbt y i) : x = y := by
  apply wb_inj
  apply BitVec.eq_of_toNat_eq
  apply Nat.eq_of_testBit_eq
  intro i
  by_cases hi : i < 64
  · exact h i hi
  · have h1 := gbt_big x (i := i) (by omega)
    have h2 := gbt_big y (i := i) (by omega)
    unfold gbt at h1 h2
    rw [h1, h2]
theorem gbt_shl {k : Nat} (hk : k < 64) (i : Nat) : gbt ((1 : Int64) <<< ((nI k).toInt64 &&& 63)) i = decide (i = k) := by
  rw [show (1 : Int64) = lN 1 from rfl, wb_shl 1 hk, Nat.one_mul]
  unfold gbt
  rw [wb_tn (wb_lt2 hk), Nat.testBit_two_pow]
  simp [eq_comm]
theorem low_ex (n : Nat) (h : n ≠ 0) : ∃ k m, n = 2 ^ k * (2 * m + 1) := by
  induction n using Nat.strongRecOn with
  | ind n ih =>
    rcases Nat.mod_two_eq_zero_or_one n with e | e
    · obtain ⟨k, m, hk⟩ := ih (n / 2) (by omega) (by omega)
      refine ⟨k + 1, m, ?_⟩
      rw [Nat.pow_succ, Nat.mul_assoc, Nat.mul_left_comm, ← hk]
      omega
    · exact ⟨0, n / 2, by omega⟩
theorem low_bit {k m i : Nat} : (2 ^ k * (2 * m + 1)).testBit i = (decide (k ≤ i) && (2 * m + 1).testBit (i - k)) := by
  rw [Nat.testBit_two_pow_mul]
theorem odd_bit {m i : Nat} : (2 * m + 1).testBit i = (decide (i = 0) || m.testBit (i - 1)) := by
  cases i with
  | zero => simp [Nat.testBit_zero]
  | succ i =>
    rw [Nat.testBit_succ, show (2 * m + 1) / 2 = m by omega]
    simp
theorem even_bit {m i : Nat} : (2 * m).testBit i = (decide (i ≠ 0) && m.testBit (i - 1)) := by
  cases i with
  | zero => simp [Nat.testBit_zero]
  | succ i =>
    rw [Nat.testBit_succ, show (2 * m) / 2 = m by omega]
    simp
theorem low_clear {k m i : Nat} : ((2 ^ k * (2 * m + 1)) &&& (2 ^ k * (2 * m + 1) - 1)).testBit i = ((2 ^ k * (2 * m + 1)).testBit i && decide (i ≠ k)) := by
  have hp : 0 < 2 ^ k := Nat.two_pow_pos k
  have e : 2 ^ k * (2 * m + 1) - 1 = 2 ^ k * (2 * m) + (2 ^ k - 1) := by
    rw [Nat.mul_add, Nat.mul_one]
    omega
  rw [Nat.testBit_and, e, Nat.testBit_two_pow_mul_add _ (show 2 ^ k - 1 < 2 ^ k by omega), low_bit, odd_bit]
  by_cases h : i < k
  · rw [if_pos h]
    simp [show ¬ k ≤ i by omega]
  · rw [if_neg h, even_bit]
    by_cases h2 : i = k
    · subst h2
      simp
    · simp [h2, show ¬ i - k = 0 by omega, show k ≤ i by omega]
theorem low_only {n k m : Nat} (hn : n < 2 ^ 64) (h : n = 2 ^ k * (2 * m + 1)) : n &&& (2 ^ 64 - n) = 2 ^ k ∧ k < 64 := by
  have hp : 0 < 2 ^ k := Nat.two_pow_pos k
  have hk : k < 64 := by
    rcases Nat.lt_or_ge k 64 with q | q
    · exact q
    · have h1 : 2 ^ 64 ≤ 2 ^ k := Nat.pow_le_pow_right (by decide) q
      have h2 : 2 ^ k * 1 ≤ 2 ^ k * (2 * m + 1) := Nat.mul_le_mul_left _ (by omega)
      omega
  refine ⟨?_, hk⟩
  have hw : 2 ^ 64 = 2 ^ k * (2 * 2 ^ (63 - k)) := by
    rw [wb_pw (show k ≤ 64 by omega), show 64 - k = (63 - k) + 1 by omega, Nat.pow_succ, Nat.mul_comm (2 ^ (63 - k)) 2]
  have hm : m < 2 ^ (63 - k) := by
    rcases Nat.lt_or_ge m (2 ^ (63 - k)) with q | q
    · exact q
    · have : 2 ^ k * (2 * 2 ^ (63 - k)) ≤ 2 ^ k * (2 * m + 1) := Nat.mul_le_mul_left _ (by omega)
      omega
  have e : 2 ^ 64 - n = 2 ^ k * (2 * (2 ^ (63 - k) - (m + 1)) + 1) := by
    have q : 2 ^ k * (2 * 2 ^ (63 - k)) = 2 ^ k * (2 * (2 ^ (63 - k) - (m + 1)) + 1) + 2 ^ k * (2 * m + 1) := by
      rw [← Nat.mul_add]
      congr 1
      omega
    omega
  rw [e, h]
  apply Nat.eq_of_testBit_eq
  intro i
  rw [Nat.testBit_and, low_bit, low_bit, odd_bit, odd_bit, Nat.testBit_two_pow]
  by_cases h1 : k = i
  · subst h1
    simp
  · by_cases h2 : k ≤ i
    · rw [Nat.testBit_two_pow_sub_succ hm]
      simp [h1, h2, show ¬ i - k = 0 by omega]
      intro q
      simp [q]
    · simp [h1, h2]
