def bb (lo hi : Int64) (r : Nat) : Bool := if r < 64 then gbt lo r else gbt hi (r - 64)
def rks (lo hi : Int64) : List Nat := (List.range 128).filter (bb lo hi)
theorem cntB_add : ∀ (b a : Nat) (p : Nat → Bool), cntB (a + b) p = cntB b (fun i => p (i + a)) + cntB a p := by
  intro b
  induction b with
  | zero => intro a p; simp [cntB]
  | succ b ih =>
    intro a p
    rw [← Nat.add_assoc, cntB, cntB, ih, Nat.add_comm b a]
    omega
theorem rks_len (lo hi : Int64) : (rks lo hi).length = pcl lo + pcl hi := by
  have h1 := cntB_len 128 (bb lo hi)
  have h2 : cntB 128 (bb lo hi) = cntB 64 (fun i => bb lo hi (i + 64)) + cntB 64 (bb lo hi) := cntB_add 64 64 (bb lo hi)
  have h3 : cntB 64 (fun i => bb lo hi (i + 64)) = pcl hi := by
    rw [pcl_cnt]
    exact cntB_congr (fun i hi => by unfold bb; rw [if_neg (by omega), Nat.add_sub_cancel])
  have h4 : cntB 64 (bb lo hi) = pcl lo := by
    rw [pcl_cnt]
    exact cntB_congr (fun i hi => by unfold bb; rw [if_pos hi])
  unfold rks
  rw [← h1, h2, h3, h4, Nat.add_comm]
theorem filter_head {p : Nat → Bool} {r : Nat} (hr : p r = true) (hl : ∀ i, i < r → p i = false) : ∀ {N : Nat}, r < N → (List.range N).filter p = r :: (List.range N).filter (fun i => p i && decide (i ≠ r)) := by
  intro N
  induction N with
  | zero => intro h; exact absurd h (Nat.not_lt_zero r)
  | succ N ih =>
    intro h
    rw [List.range_succ, List.filter_append, List.filter_append]
    by_cases e : r = N
    · subst e
      have h1 : (List.range r).filter p = [] := List.filter_eq_nil_iff.mpr (fun a ha => by rw [hl a (List.mem_range.mp ha)]; decide)
      have h2 : (List.range r).filter (fun i => p i && decide (i ≠ r)) = [] := List.filter_eq_nil_iff.mpr (fun a ha => by rw [hl a (List.mem_range.mp ha)]; simp)
      rw [h1, h2]
      simp [hr]
    · have h1 : [N].filter p = [N].filter (fun i => p i && decide (i ≠ r)) := List.filter_congr (fun a ha => by
        rw [List.mem_singleton] at ha
        subst ha
        simp [show ¬ a = r by omega])
      rw [ih (by omega), h1, List.cons_append]
theorem gbt_ne0 {x : Int64} (h : x ≠ 0) : ∃ k, k < 64 ∧ gbt x k = true := by
  apply Classical.byContradiction
  intro q
  apply h
  apply gbt_ext
  intro i hi
  rw [gbt_0]
  cases e : gbt x i with
  | false => rfl
  | true => exact (q ⟨i, hi, e⟩).elim
theorem low_long {x : Int64} (h : x ≠ 0) : ∃ k, k < 64 ∧ gbt x k = true ∧ (∀ i, i < k → gbt x i = false) ∧ (∀ i, gbt (x &&& (x - 1)) i = (gbt x i && decide (i ≠ k))) ∧ pcl ((x &&& (-x)) - 1) = k := by
  obtain ⟨n, hn, rfl⟩ := wb_of x
  have hn0 : n ≠ 0 := fun e => h (by rw [e]; rfl)
  obtain ⟨k, m, hk⟩ := low_ex n hn0
  obtain ⟨h1, h2⟩ := low_only hn hk
  have hneg : -(lN n) = lN (2 ^ 64 - n) := by
    apply wb_inj
    apply BitVec.eq_of_toNat_eq
    rw [Int64.toBitVec_neg, BitVec.toNat_neg, wb_tn hn, wb_tn (by omega), Nat.mod_eq_of_lt (by omega)]
  have hsub : lN n - 1 = lN (n - 1) := lN_sub (a := n) (b := 1) (by omega)
  have hp : 0 < 2 ^ k := Nat.two_pow_pos k
  have hlt := wb_lt2 h2
  refine ⟨k, h2, ?_, ?_, ?_, ?_⟩
  · unfold gbt
    rw [wb_tn hn, hk, low_bit, odd_bit]
    simp
  · intro i hi
    unfold gbt
    rw [wb_tn hn, hk, low_bit]
    simp
    omega
  · intro i
    rw [hsub, wb_and hn (by omega)]
    unfold gbt
    rw [wb_tn hn, wb_tn (Nat.lt_of_le_of_lt Nat.and_le_left hn), hk, low_clear]
  · rw [hneg, wb_and hn (by omega), h1, show (1 : Int64) = lN 1 from rfl, lN_sub (by omega), pcl_cnt]
    have : cntB 64 (gbt (lN (2 ^ k - 1))) = cntB 64 (fun i => decide (i < k)) := cntB_congr (fun i hi => by
      unfold gbt
      rw [wb_tn (by omega), Nat.testBit_two_pow_sub_one])
    rw [this, cntB_lt 64 k (by omega)]
theorem sp_S_lowestBit {x : Int64} {u : zz_St} {post : Int32 → zz_St → Prop} (h : post (nI (pcl ((x &&& (-x)) - 1))) u) : wp_S_lowestBit x u post := sp_JL_bitCount h
theorem rks_lo {lo hi : Int64} (h : lo ≠ 0) : ∃ k, k < 64 ∧ bb lo hi k = true ∧ pcl ((lo &&& (-lo)) - 1) = k ∧ rks lo hi = k :: rks (lo &&& (lo - 1)) hi := by
  obtain ⟨k, k1, k2, k3, k4, k5⟩ := low_long h
  have hb : bb lo hi k = true := by unfold bb; rw [if_pos k1]; exact k2
  refine ⟨k, k1, hb, k5, ?_⟩
  refine (filter_head hb (fun i hi => by unfold bb; rw [if_pos (by omega)]; exact k3 i hi) (show k < 128 by omega)).trans (congrArg (List.cons k) (List.filter_congr (fun i _ => ?_)))
  unfold bb
  by_cases hi : i < 64
  · rw [if_pos hi, if_pos hi, k4]
  · rw [if_neg hi, if_neg hi]
    simp [show ¬ i = k by omega]
theorem rks_hi {hi : Int64} (h : hi ≠ 0) : ∃ k, k < 64 ∧ bb 0 hi (64 + k) = true ∧ pcl ((hi &&& (-hi)) - 1) = k ∧ rks 0 hi = (64 + k) :: rks 0 (hi &&& (hi - 1)) := by
  obtain ⟨k, k1, k2, k3, k4, k5⟩ := low_long h
  have hb : bb 0 hi (64 + k) = true := by unfold bb; rw [if_neg (by omega), Nat.add_sub_cancel_left]; exact k2
  refine ⟨k, k1, hb, k5, ?_⟩
  refine (filter_head hb (fun i hi => by
    unfold bb
    by_cases q : i < 64
    · rw [if_pos q, gbt_0]
    · rw [if_neg q]; exact k3 _ (by omega)) (show 64 + k < 128 by omega)).trans (congrArg (List.cons (64 + k)) (List.filter_congr (fun i _ => ?_)))
  unfold bb
  by_cases hi : i < 64
  · rw [if_pos hi, if_pos hi, gbt_0]
    rfl
  · have e : decide (i - 64 ≠ k) = decide (i ≠ 64 + k) := decide_eq_decide.mpr (by omega)
    rw [if_neg hi, if_neg hi, k4, e]
theorem rks_00 : rks 0 0 = [] := by
  unfold rks
  refine List.filter_eq_nil_iff.mpr (fun a _ => ?_)
  unfold bb
  split <;> simp [gbt_0]
theorem lg_cmp0 (x : Int64) : lg_cmp x 0 = 0 ↔ x = 0 := by
  unfold lg_cmp
  by_cases h1 : x > 0
  · rw [if_pos h1]
    constructor
    · intro q; exact absurd q (by decide)
    · intro q; subst q; exact absurd h1 (by decide)
  · rw [if_neg h1]
    by_cases h2 : x = 0
    · rw [if_pos h2]; simp [h2]
    · rw [if_neg h2]
      constructor
      · intro q; exact absurd q (by decide)
      · intro q; exact absurd q h2
theorem sp_L_lowBit {r : Nat} {u : zz_St} {post : Int64 → zz_St → Prop} (hr : r < 128) (h : ∀ x : Int64, (∀ i, gbt x i = (decide (i = r) && decide (i < 64))) → post x u) : wp_L_lowBit (nI r) u post := by
  unfold wp_L_lowBit
  refine pk_le 64 r (fun q => h 0 (fun i => ?_)) (fun q => h _ (fun i => ?_))
  · rw [gbt_0]
    simp
    omega
  · rw [gbt_shl q]
    simp
    omega
theorem sp_L_highBit {r : Nat} {u : zz_St} {post : Int64 → zz_St → Prop} (hr : r < 128) (h : ∀ x : Int64, (∀ i, gbt x i = (decide (i + 64 = r) && decide (i < 64))) → post x u) : wp_L_highBit (nI r) u post := by
  unfold wp_L_highBit
  refine pk_le 64 r (fun q => h _ (fun i => ?_)) (fun q => h 0 (fun i => ?_))
  · rw [show (64 : Int32) = nI 64 from rfl, pk_sub q, gbt_shl (by omega), Bool.eq_iff_iff, Bool.and_eq_true, decide_eq_true_iff, decide_eq_true_iff, decide_eq_true_iff]
    omega
  · rw [gbt_0]
    simp
    omega
