def bcn : Nat → Nat → Nat
  | 0, _ => 0
  | k + 1, x => x % 2 + bcn k (x / 2)
theorem bcn_add (a b m : Nat) (ha : a < 256) : bcn (8 + m) (a + 256 * b) = bcn 8 a + bcn m b := by
  have e : ∀ x, bcn (8 + m) x = x % 2 + (x / 2 % 2 + (x / 4 % 2 + (x / 8 % 2 + (x / 16 % 2 + (x / 32 % 2 + (x / 64 % 2 + (x / 128 % 2 + bcn m (x / 256)))))))) := by
    intro x
    rw [show 8 + m = m + 1 + 1 + 1 + 1 + 1 + 1 + 1 + 1 by omega]
    simp only [bcn, Nat.div_div_eq_div_mul]
  have e2 : ∀ x, bcn 8 x = x % 2 + (x / 2 % 2 + (x / 4 % 2 + (x / 8 % 2 + (x / 16 % 2 + (x / 32 % 2 + (x / 64 % 2 + (x / 128 % 2 + 0))))))) := by
    intro x
    simp only [bcn, Nat.div_div_eq_div_mul]
  rw [e, e2, show (a + 256 * b) / 256 = b by omega]
  omega
theorem and_byte {a b c d : Nat} (ha : a < 256) (hc : c < 256) : (a + 256 * b) &&& (c + 256 * d) = (a &&& c) + 256 * (b &&& d) := by
  have hac : a &&& c < 2 ^ 8 := Nat.lt_of_le_of_lt Nat.and_le_left ha
  apply Nat.eq_of_testBit_eq
  intro i
  rw [Nat.testBit_and, Nat.add_comm a, Nat.add_comm c, Nat.add_comm (a &&& c)]
  rw [show (256 : Nat) = 2 ^ 8 from rfl]
  rw [Nat.testBit_two_pow_mul_add _ (show a < 2 ^ 8 from ha), Nat.testBit_two_pow_mul_add _ (show c < 2 ^ 8 from hc), Nat.testBit_two_pow_mul_add _ hac]
  split <;> simp [Nat.testBit_and]
def mk5 : Nat → Nat
  | 0 => 0
  | n + 1 => 85 + 256 * mk5 n
def mk3 : Nat → Nat
  | 0 => 0
  | n + 1 => 51 + 256 * mk3 n
def mk0 : Nat → Nat
  | 0 => 0
  | n + 1 => 15 + 256 * mk0 n
def bs1 (n x : Nat) : Nat := x - ((x / 2) &&& mk5 n)
def bs2 (n x : Nat) : Nat := (x &&& mk3 n) + ((x / 4) &&& mk3 n)
def bs3 (n x : Nat) : Nat := (x + x / 16) &&& mk0 n
def bf1 (a : Nat) : Nat := a - ((a / 2) &&& 85)
def bf2 (a : Nat) : Nat := (a &&& 51) + ((a / 4) &&& 51)
def bf3 (a : Nat) : Nat := (a + a / 16) &&& 15
set_option maxRecDepth 100000 in
theorem bf_ok : ∀ a, a < 256 → bf1 a < 256 ∧ (a / 2) &&& 85 ≤ a ∧ bf2 (bf1 a) ≤ 68 ∧ bf2 (bf1 a) % 16 ≤ 4 ∧ bf3 (bf2 (bf1 a)) = bcn 8 a ∧ bcn 8 a ≤ 8 := by decide +kernel
set_option maxRecDepth 100000 in
theorem bf_a : ∀ a, a < 256 → ∀ b, b < 2 → (a / 2 + 128 * b) &&& 85 = (a / 2) &&& 85 := by decide +kernel
set_option maxRecDepth 100000 in
theorem bf_b : ∀ a, a < 256 → ∀ b, b < 4 → (a / 4 + 64 * b) &&& 51 = (a / 4) &&& 51 := by decide +kernel
set_option maxRecDepth 100000 in
theorem bf_c : ∀ a, a < 69 → ∀ b, b < 5 → (a + a / 16 + 16 * b) &&& 15 = (a + a / 16) &&& 15 := by decide +kernel
theorem bs1_s {n a b : Nat} (ha : a < 256) (hb : (b / 2) &&& mk5 n ≤ b) : bs1 (n + 1) (a + 256 * b) = bf1 a + 256 * bs1 n b := by
  unfold bs1 bf1
  have h1 := (bf_ok a ha).2.1
  rw [show (a + 256 * b) / 2 = (a / 2 + 128 * (b % 2)) + 256 * (b / 2) by omega]
  show a + 256 * b - (_ &&& (85 + 256 * mk5 n)) = _
  rw [and_byte (by omega) (by decide), bf_a a ha (b % 2) (by omega)]
  generalize a / 2 &&& 85 = p at *
  generalize b / 2 &&& mk5 n = q at *
  omega
theorem bs2_s {n a b : Nat} (ha : a < 256) : bs2 (n + 1) (a + 256 * b) = bf2 a + 256 * bs2 n b := by
  unfold bs2 bf2
  rw [show (a + 256 * b) / 4 = (a / 4 + 64 * (b % 4)) + 256 * (b / 4) by omega]
  show (_ &&& (51 + 256 * mk3 n)) + (_ &&& (51 + 256 * mk3 n)) = _
  rw [and_byte ha (by decide), and_byte (by omega) (by decide), bf_b a ha (b % 4) (by omega)]
  omega
theorem bs3_s {n a b : Nat} (ha : a < 69) (hb : b % 16 ≤ 4) : bs3 (n + 1) (a + 256 * b) = bf3 a + 256 * bs3 n b := by
  unfold bs3 bf3
  rw [show a + 256 * b + (a + 256 * b) / 16 = (a + a / 16 + 16 * (b % 16)) + 256 * (b + b / 16) by omega]
  show (_ &&& (15 + 256 * mk0 n)) = _
  rw [and_byte (by omega) (by decide), bf_c a ha (b % 16) (by omega)]
def bdg : Nat → Nat → Nat
  | 0, _ => 0
  | n + 1, x => bcn 8 (x % 256) + 256 * bdg n (x / 256)
theorem bs_all : ∀ n x, x < 256 ^ n → (x / 2) &&& mk5 n ≤ x ∧ bs2 n (bs1 n x) % 16 ≤ 4 ∧ bs3 n (bs2 n (bs1 n x)) = bdg n x := by
  intro n
  induction n with
  | zero =>
    intro x hx
    have : x = 0 := by simpa using hx
    subst this
    exact ⟨by decide, by decide, by decide⟩
  | succ n ih =>
    intro x hx
    have hb : x / 256 < 256 ^ n := by
      rw [Nat.pow_succ] at hx
      exact Nat.div_lt_of_lt_mul (by rw [Nat.mul_comm]; exact hx)
    obtain ⟨i1, i2, i3⟩ := ih (x / 256) hb
    have ha : x % 256 < 256 := Nat.mod_lt _ (by decide)
    obtain ⟨f1, f2, f3, f4, f5, f6⟩ := bf_ok (x % 256) ha
    have e : x % 256 + 256 * (x / 256) = x := by omega
    have e1 : bs1 (n + 1) x = bf1 (x % 256) + 256 * bs1 n (x / 256) := by
      rw [← bs1_s ha i1, e]
    have e2 : bs2 (n + 1) (bs1 (n + 1) x) = bf2 (bf1 (x % 256)) + 256 * bs2 n (bs1 n (x / 256)) := by
      rw [e1, bs2_s f1]
    refine ⟨?_, ?_, ?_⟩
    · have q : (x / 2) &&& mk5 (n + 1) = ((x % 256) / 2 &&& 85) + 256 * ((x / 256) / 2 &&& mk5 n) := by
        rw [show x / 2 = ((x % 256) / 2 + 128 * ((x / 256) % 2)) + 256 * ((x / 256) / 2) by omega]
        show _ &&& (85 + 256 * mk5 n) = _
        rw [and_byte (by omega) (by decide), bf_a (x % 256) ha _ (by omega)]
      rw [q]
      generalize x % 256 / 2 &&& 85 = p at *
      generalize x / 256 / 2 &&& mk5 n = r at *
      omega
    · rw [e2]
      omega
    · rw [e2, bs3_s (by omega) i2, f5, i3]
      rfl
def bsg : Nat → Nat → Nat
  | 0, _ => 0
  | n + 1, x => bcn 8 (x % 256) + bsg n (x / 256)
theorem bsg_bcn : ∀ n x, bsg n x = bcn (8 * n) x := by
  intro n
  induction n with
  | zero => intro x; rfl
  | succ n ih =>
    intro x
    have h := bcn_add (x % 256) (x / 256) (8 * n) (Nat.mod_lt _ (by decide))
    rw [show x % 256 + 256 * (x / 256) = x by omega] at h
    rw [show 8 * (n + 1) = 8 + 8 * n by omega, h, ← ih]
    rfl
theorem bdg_fold (x : Nat) : ∃ c0 c1 c2 c3 c4 c5 c6 c7 : Nat, c0 ≤ 8 ∧ c1 ≤ 8 ∧ c2 ≤ 8 ∧ c3 ≤ 8 ∧ c4 ≤ 8 ∧ c5 ≤ 8 ∧ c6 ≤ 8 ∧ c7 ≤ 8 ∧ bdg 8 x = c0 + 256 * c1 + 65536 * c2 + 16777216 * c3 + 4294967296 * c4 + 1099511627776 * c5 + 281474976710656 * c6 + 72057594037927936 * c7 ∧ bsg 8 x = c0 + c1 + c2 + c3 + c4 + c5 + c6 + c7 := by
  have h : ∀ y, bcn 8 (y % 256) ≤ 8 := fun y => (bf_ok (y % 256) (Nat.mod_lt _ (by decide))).2.2.2.2.2
  refine ⟨_, _, _, _, _, _, _, _, h x, h (x / 256), h (x / 256 / 256), h (x / 256 / 256 / 256), h (x / 256 / 256 / 256 / 256), h (x / 256 / 256 / 256 / 256 / 256), h (x / 256 / 256 / 256 / 256 / 256 / 256), h (x / 256 / 256 / 256 / 256 / 256 / 256 / 256), ?_, ?_⟩
  · simp only [bdg]
    omega
  · simp only [bsg]
    omega
theorem bs_fin {y s : Nat} (h : ∃ c0 c1 c2 c3 c4 c5 c6 c7 : Nat, c0 ≤ 8 ∧ c1 ≤ 8 ∧ c2 ≤ 8 ∧ c3 ≤ 8 ∧ c4 ≤ 8 ∧ c5 ≤ 8 ∧ c6 ≤ 8 ∧ c7 ≤ 8 ∧ y = c0 + 256 * c1 + 65536 * c2 + 16777216 * c3 + 4294967296 * c4 + 1099511627776 * c5 + 281474976710656 * c6 + 72057594037927936 * c7 ∧ s = c0 + c1 + c2 + c3 + c4 + c5 + c6 + c7) : y < 2 ^ 62 ∧ (y + y / 256 + (y + y / 256) / 65536 + (y + y / 256 + (y + y / 256) / 65536) / 4294967296) % 128 = s ∧ s ≤ 64 := by
  obtain ⟨c0, c1, c2, c3, c4, c5, c6, c7, h0, h1, h2, h3, h4, h5, h6, h7, hy, hs⟩ := h
  have d1 : y / 256 = c1 + 256 * c2 + 65536 * c3 + 16777216 * c4 + 4294967296 * c5 + 1099511627776 * c6 + 281474976710656 * c7 := by
    have k : y = c0 + 256 * (c1 + 256 * c2 + 65536 * c3 + 16777216 * c4 + 4294967296 * c5 + 1099511627776 * c6 + 281474976710656 * c7) := by rw [hy]; simp only [Nat.mul_add, ← Nat.mul_assoc]; simp only [Nat.add_assoc, Nat.reduceMul]
    rw [k, Nat.add_mul_div_left _ _ (by decide), Nat.div_eq_of_lt (Nat.lt_of_le_of_lt h0 (by decide)), Nat.zero_add]
  have q4 : y + y / 256 = (c0 + c1 + 256 * (c1 + c2)) + 65536 * ((c2 + c3) + 256 * (c3 + c4) + 65536 * (c4 + c5) + 16777216 * (c5 + c6) + 4294967296 * (c6 + c7) + 1099511627776 * c7) := by
    rw [d1, hy]
    clear hy hs d1
    omega
  have d2 : (y + y / 256) / 65536 = (c2 + c3) + 256 * (c3 + c4) + 65536 * (c4 + c5) + 16777216 * (c5 + c6) + 4294967296 * (c6 + c7) + 1099511627776 * c7 := by
    have k : c0 + c1 + 256 * (c1 + c2) < 65536 := by clear hy hs d1 q4; omega
    rw [q4, Nat.add_mul_div_left _ _ (by decide), Nat.div_eq_of_lt k, Nat.zero_add]
  have q5 : y + y / 256 + (y + y / 256) / 65536 = ((c0 + c1 + c2 + c3) + 256 * (c1 + c2 + c3 + c4) + 65536 * (c2 + c3 + c4 + c5) + 16777216 * (c3 + c4 + c5 + c6)) + 4294967296 * ((c4 + c5 + c6 + c7) + 256 * (c5 + c6 + c7) + 65536 * (c6 + c7) + 16777216 * c7) := by
    rw [d2, q4]
    clear hy hs d1 q4 d2
    omega
  have d3 : (y + y / 256 + (y + y / 256) / 65536) / 4294967296 = (c4 + c5 + c6 + c7) + 256 * (c5 + c6 + c7) + 65536 * (c6 + c7) + 16777216 * c7 := by
    have k : (c0 + c1 + c2 + c3) + 256 * (c1 + c2 + c3 + c4) + 65536 * (c2 + c3 + c4 + c5) + 16777216 * (c3 + c4 + c5 + c6) < 4294967296 := by clear hy hs d1 q4 d2 q5; omega
    rw [q5, Nat.add_mul_div_left _ _ (by decide), Nat.div_eq_of_lt k, Nat.zero_add]
  have q6 : y + y / 256 + (y + y / 256) / 65536 + (y + y / 256 + (y + y / 256) / 65536) / 4294967296 = s + 128 * (2 * ((c1 + c2 + c3 + c4) + 256 * (c2 + c3 + c4 + c5) + 65536 * (c3 + c4 + c5 + c6) + 16777216 * ((c4 + c5 + c6 + c7) + 256 * (c5 + c6 + c7) + 65536 * (c6 + c7) + 16777216 * c7) + (c5 + c6 + c7) + 256 * (c6 + c7) + 65536 * c7)) := by
    rw [d3, q5, hs]
    clear hy hs d1 q4 d2 q5 d3
    omega
  have hs64 : s ≤ 64 := by rw [hs]; clear hy hs d1 q4 d2 q5 d3 q6; omega
  refine ⟨?_, ?_, hs64⟩
  · rw [hy]
    clear hy hs d1 q4 d2 q5 d3 q6
    omega
  · rw [q6, Nat.add_mul_mod_self_left, Nat.mod_eq_of_lt (Nat.lt_of_le_of_lt hs64 (by decide))]
def pcl (x : Int64) : Nat := bcn 64 x.toBitVec.toNat
theorem sp_JL_bitCount {x : Int64} {u : zz_St} {post : Int32 → zz_St → Prop} (h : post (nI (pcl x)) u) : wp_JL_bitCount x u post := by
  obtain ⟨n, hn, rfl⟩ := wb_of x
  have hp : pcl (lN n) = bcn 64 n := by unfold pcl; rw [wb_tn hn]
  rw [hp] at h
  obtain ⟨i1, i2, i3⟩ := bs_all 8 n hn
  have m5 : mk5 8 = 6148914691236517205 := by decide
  have m3 : mk3 8 = 3689348814741910323 := by decide
  have m0 : mk0 8 = 1085102592571150095 := by decide
  have hl : ∀ {a b : Nat}, a ≤ b → b < 2 ^ 64 → a < 2 ^ 64 := fun q w => Nat.lt_of_le_of_lt q w
  unfold wp_JL_bitCount
  intro v1 e1 v2 e2 v3 e3 v4 e4 v5 e5 v6 e6
  rw [show (1 : Int32) = nI 1 from rfl, wb_shr hn (by decide), show (6148914691236517205 : Int64) = lN 6148914691236517205 from rfl, wb_and (hl (Nat.div_le_self _ _) hn) (by decide), ← m5] at e1
  have i1' : n / 2 ^ 1 &&& mk5 8 ≤ n := i1
  rw [lN_sub i1'] at e1
  have e1' : v1 = lN (bs1 8 n) := e1
  have b1 : bs1 8 n < 2 ^ 64 := hl (Nat.sub_le _ _) hn
  have am : ∀ {a b : Nat}, b < 2 ^ 62 → a &&& b < 2 ^ 62 := fun q => Nat.lt_of_le_of_lt Nat.and_le_right q
  have k3 : mk3 8 < 2 ^ 62 := by decide
  have k0 : mk0 8 < 2 ^ 62 := by decide
  rw [e1', show (2 : Int32) = nI 2 from rfl, wb_shr b1 (by decide), show (3689348814741910323 : Int64) = lN 3689348814741910323 from rfl, ← m3, wb_and b1 (by omega), wb_and (hl (Nat.div_le_self _ _) b1) (by omega), lN_add] at e2
  have e2' : v2 = lN (bs2 8 (bs1 8 n)) := e2
  have b2 : bs2 8 (bs1 8 n) < 2 ^ 63 := by
    have q1 := am (a := bs1 8 n) k3
    have q2 := am (a := bs1 8 n / 4) k3
    unfold bs2
    omega
  rw [e2', show (4 : Int32) = nI 4 from rfl, wb_shr (by omega) (by decide), lN_add, show (1085102592571150095 : Int64) = lN 1085102592571150095 from rfl, ← m0, wb_and (by
    have q := Nat.div_le_self (bs2 8 (bs1 8 n)) (2 ^ 4)
    omega) (by omega)] at e3
  have e3' : v3 = lN (bdg 8 n) := by rw [← i3]; exact e3
  obtain ⟨y1, y2, y3⟩ := bs_fin (bdg_fold n)
  rw [e3', show (8 : Int32) = nI 8 from rfl, wb_shr (by omega) (by decide), lN_add] at e4
  have b4 : bdg 8 n + bdg 8 n / 2 ^ 8 < 2 ^ 63 := by
    have q : bdg 8 n / 2 ^ 8 ≤ bdg 8 n := Nat.div_le_self _ _
    omega
  rw [e4, show (16 : Int32) = nI 16 from rfl, wb_shr (by omega) (by decide), lN_add] at e5
  have b5 : bdg 8 n + bdg 8 n / 2 ^ 8 + (bdg 8 n + bdg 8 n / 2 ^ 8) / 2 ^ 16 < 2 ^ 64 := by
    have q : (bdg 8 n + bdg 8 n / 2 ^ 8) / 2 ^ 16 ≤ bdg 8 n + bdg 8 n / 2 ^ 8 := Nat.div_le_self _ _
    omega
  rw [e5, show (32 : Int32) = nI 32 from rfl, wb_shr b5 (by decide), lN_add] at e6
  rw [e6, lN_i, show (127 : Int32) = nI 127 from rfl, nx_and, show (127 : Nat) = 2 ^ 7 - 1 from rfl, Nat.and_two_pow_sub_one_eq_mod]
  have e7 : bcn 64 n = bsg 8 n := (bsg_bcn 8 n).symm
  rw [e7, ← y2] at h
  exact h
