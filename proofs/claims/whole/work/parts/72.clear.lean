def sumA (sc : Nat → Nat) (asg : Nat → Option Nat) : Nat → Nat
  | 0 => 0
  | k + 1 => sumA sc asg k + (match asg k with | none => 0 | some w => sc w)
theorem sumA_full {sc : Nat → Nat} {asg : Nat → Option Nat} : ∀ {n : Nat}, (∀ k, k < n → ∃ w, asg k = some w) → sumA sc asg n = sumF sc (fnA asg) n := by
  intro n
  induction n with
  | zero => intro _; rfl
  | succ n ih =>
    intro h
    obtain ⟨w, hw⟩ := h n (by omega)
    rw [sumA, sumF, ih (fun k hk => h k (by omega))]
    unfold fnA
    rw [hw]
    rfl
theorem sumA_cg {sc : Nat → Nat} {asg asg' : Nat → Option Nat} : ∀ {n : Nat}, (∀ k, k < n → asg k = asg' k) → sumA sc asg n = sumA sc asg' n := by
  intro n
  induction n with
  | zero => intro _; rfl
  | succ n ih =>
    intro h
    rw [sumA, sumA, ih (fun k hk => h k (by omega)), h n (by omega)]
theorem sumA_set {sc : Nat → Nat} {asg : Nat → Option Nat} {k w : Nat} (h : asg k = none) : ∀ {n : Nat}, k < n → sumA sc (setA asg k w) n = sumA sc asg n + sc w := by
  intro n
  induction n with
  | zero => intro hk; exact absurd hk (Nat.not_lt_zero k)
  | succ n ih =>
    intro hk
    rw [sumA, sumA]
    by_cases e : k = n
    · subst e
      rw [sumA_cg (asg := setA asg k w) (asg' := asg) (fun j hj => by unfold setA; rw [if_neg (by omega)]), h]
      unfold setA
      rw [if_pos rfl]
      simp
    · have h2 : setA asg k w n = asg n := by unfold setA; rw [if_neg (by omega)]
      rw [ih (by omega), h2]
      omega
theorem sumF_le {sc F : Nat → Nat} : ∀ {n : Nat}, (∀ k, k < n → sc (F k) ≤ 1000) → sumF sc F n ≤ 1000 * n := by
  intro n
  induction n with
  | zero => intro _; exact Nat.le_refl 0
  | succ n ih =>
    intro h
    rw [sumF]
    have := ih (fun k hk => h k (by omega))
    have := h n (by omega)
    omega
def CS (A : AS) (all : Bool) (most : Nat) (asg : Nat → Option Nat) (s : Sg) (u : zz_St) : Prop := CB A u ∧ sg_i u 8 = nI most ∧ sg_i u 9 = nI (if all = true then 1 else 0) ∧ sg_i u 10 = nI (if s.ran = true then 1 else 0) ∧ sg_i u 11 = nI s.st ∧ sg_i u 12 = nI s.mn ∧ fdC A s.fd u ∧ sg_i u 7 = nI (sumA A.sc asg A.S.length) ∧ (∀ k, k < A.S.length → sg_a u 16 k = oI (asg k)) ∧ hasB (ordW A.sc A.n) (usedA A asg) (sg_l u 0) (sg_l u 1)
def rowC (A : AS) (asg : Nat → Option Nat) (lv : Nat) (u : zz_St) : Prop := ∀ k, k < A.S.length → asg k = none → hasB (ordW A.sc A.n) (fitA A asg k) (sg_b u 4 (lv * 24 + k)) (sg_b u 5 (lv * 24 + k))
def samC (lv : Nat) (u u' : zz_St) : Prop := ∀ i, i < (lv + 1) * 24 → sg_b u' 4 i = sg_b u 4 i ∧ sg_b u' 5 i = sg_b u 5 i
theorem sp_S_clearSlots {A : AS} {u : zz_St} {post : zz_St → Prop} (hB : CB A u) (hV : VA A)
    (h : ∀ (f16 : Nat → Int32) (g4 g5 : Nat → Int64), (∀ k, k < A.S.length → f16 k = -1) → (∀ k e, A.S[k]? = some e → hasB (ordW A.sc A.n) (fitG A k e) (g4 k) (g5 k)) → post (ss_b (ss_b (ss_a (ss_l (ss_l u 0 0) 1 0) 16 f16) 4 g4) 5 g5)) : wp_S_clearSlots u post := by
  have hG := hB.1.1
  have hns := hB.1.2.2.1
  have h24 := S_len hG
  unfold wp_S_clearSlots
  refine ⟨A.S.length + 1, ?_⟩
  suffices ∀ t j f16 g4 g5, j + t = A.S.length → (∀ k, k < j → f16 k = -1) → (∀ k e, k < j → A.S[k]? = some e → hasB (ordW A.sc A.n) (fitG A k e) (g4 k) (g5 k)) → wp_S_clearSlots_12_f post (t + 1) (nI j) (ss_b (ss_b (ss_a (ss_l (ss_l u 0 0) 1 0) 16 f16) 4 g4) 5 g5) from by
    have q := this A.S.length 0 (sg_a (ss_l (ss_l u 0 0) 1 0) 16) (sg_b (ss_l (ss_l u 0 0) 1 0) 4) (sg_b (ss_l (ss_l u 0 0) 1 0) 5) (Nat.zero_add _) (fun k hk => absurd hk (Nat.not_lt_zero k)) (fun k e hk => absurd hk (Nat.not_lt_zero k))
    rw [ss_a_id, ss_b_id, ss_b_id] at q
    exact q
  intro t
  induction t with
  | zero =>
    intro j f16 g4 g5 hj hf hr
    show wp_S_clearSlots_12 post _ _ _
    unfold wp_S_clearSlots_12
    simp (decide := true) only [sx_il, sx_ia, sx_ib, sy_i, sz_i, sx_li, sx_la, sx_lb, sy_l, sz_l, sx_ai, sx_al, sx_ab, sy_a, sz_a, sx_bi, sx_bl, sx_ba, sy_b, sz_b]
    rw [hns]
    exact pk_le A.S.length j (fun _ => h f16 g4 g5 (fun k hk => hf k (by omega)) (fun k e hk => hr k e (by have := (S_e hG hk).1; omega) hk)) (fun z => absurd z (by omega))
  | succ t ih =>
    intro j f16 g4 g5 hj hf hr
    show wp_S_clearSlots_12 post _ _ _
    unfold wp_S_clearSlots_12
    obtain ⟨e, he⟩ := S_get (A := A) (k := j) (by omega)
    have hns' : sg_i (ss_b (ss_b (ss_a (ss_l (ss_l u 0 0) 1 0) 16 f16) 4 g4) 5 g5) 3 = nI A.S.length := by simp (decide := true) only [sx_il, sx_ia, sx_ib, sy_i, sz_i, sx_li, sx_la, sx_lb, sy_l, sz_l, sx_ai, sx_al, sx_ab, sy_a, sz_a, sx_bi, sx_bl, sx_ba, sy_b, sz_b]; exact hns
    rw [hns', nI_clamp (n := j) (by omega), nI_1]
    refine pk_le A.S.length j (fun z => absurd z (by omega)) (fun _ => ⟨vin (by omega), ?_⟩)
    refine sp_S_openSlot (A := A) (k := j) (e := e) (CB_a16 (CB_b5 (CB_b4 (CB_a16 (CB_l1 (CB_l0 hB)))))) hV he (fun G4 G5 ho hb => ?_)
    simp (decide := true) only [sx_il, sx_ia, sx_ib, sy_i, sz_i, sx_li, sx_la, sx_lb, sy_l, sz_l, sx_ai, sx_al, sx_ab, sy_a, sz_a, sx_bi, sx_bl, sx_ba, sy_b, sz_b, so_i, so_l, so_a, so_b, sci_0_1, sci_0_2, sci_1_2, sci_0_3, sci_1_3, sci_2_3, sci_0_4, sci_1_4, sci_2_4, sci_3_4, sci_0_5, sci_1_5, sci_2_5, sci_3_5, sci_4_5, sci_0_6, sci_1_6, sci_2_6, sci_3_6, sci_4_6, sci_5_6, sci_0_7, sci_1_7, sci_2_7, sci_3_7, sci_4_7, sci_5_7, sci_6_7, sci_0_8, sci_1_8, sci_2_8, sci_3_8, sci_4_8, sci_5_8, sci_6_8, sci_7_8, sci_0_9, sci_1_9, sci_2_9, sci_3_9, sci_4_9, sci_5_9, sci_6_9, sci_7_9, sci_8_9, sci_0_10, sci_1_10, sci_2_10, sci_3_10, sci_4_10, sci_5_10, sci_6_10, sci_7_10, sci_8_10, sci_9_10, sci_0_11, sci_1_11, sci_2_11, sci_3_11, sci_4_11, sci_5_11, sci_6_11, sci_7_11, sci_8_11, sci_9_11, sci_10_11, sci_0_12, sci_1_12, sci_2_12, sci_3_12, sci_4_12, sci_5_12, sci_6_12, sci_7_12, sci_8_12, sci_9_12, sci_10_12, sci_11_12, scl_0_1, sca_0_1, sca_0_2, sca_1_2, sca_0_3, sca_1_3, sca_2_3, sca_0_4, sca_1_4, sca_2_4, sca_3_4, sca_0_5, sca_1_5, sca_2_5, sca_3_5, sca_4_5, sca_0_6, sca_1_6, sca_2_6, sca_3_6, sca_4_6, sca_5_6, sca_0_7, sca_1_7, sca_2_7, sca_3_7, sca_4_7, sca_5_7, sca_6_7, sca_0_8, sca_1_8, sca_2_8, sca_3_8, sca_4_8, sca_5_8, sca_6_8, sca_7_8, sca_0_9, sca_1_9, sca_2_9, sca_3_9, sca_4_9, sca_5_9, sca_6_9, sca_7_9, sca_8_9, sca_0_10, sca_1_10, sca_2_10, sca_3_10, sca_4_10, sca_5_10, sca_6_10, sca_7_10, sca_8_10, sca_9_10, sca_0_11, sca_1_11, sca_2_11, sca_3_11, sca_4_11, sca_5_11, sca_6_11, sca_7_11, sca_8_11, sca_9_11, sca_10_11, sca_0_12, sca_1_12, sca_2_12, sca_3_12, sca_4_12, sca_5_12, sca_6_12, sca_7_12, sca_8_12, sca_9_12, sca_10_12, sca_11_12, sca_0_13, sca_1_13, sca_2_13, sca_3_13, sca_4_13, sca_5_13, sca_6_13, sca_7_13, sca_8_13, sca_9_13, sca_10_13, sca_11_13, sca_12_13, sca_0_14, sca_1_14, sca_2_14, sca_3_14, sca_4_14, sca_5_14, sca_6_14, sca_7_14, sca_8_14, sca_9_14, sca_10_14, sca_11_14, sca_12_14, sca_13_14, sca_0_15, sca_1_15, sca_2_15, sca_3_15, sca_4_15, sca_5_15, sca_6_15, sca_7_15, sca_8_15, sca_9_15, sca_10_15, sca_11_15, sca_12_15, sca_13_15, sca_14_15, sca_0_16, sca_1_16, sca_2_16, sca_3_16, sca_4_16, sca_5_16, sca_6_16, sca_7_16, sca_8_16, sca_9_16, sca_10_16, sca_11_16, sca_12_16, sca_13_16, sca_14_16, sca_15_16, sca_0_17, sca_1_17, sca_2_17, sca_3_17, sca_4_17, sca_5_17, sca_6_17, sca_7_17, sca_8_17, sca_9_17, sca_10_17, sca_11_17, sca_12_17, sca_13_17, sca_14_17, sca_15_17, sca_16_17, scb_0_1, scb_0_2, scb_1_2, scb_0_3, scb_1_3, scb_2_3, scb_0_4, scb_1_4, scb_2_4, scb_3_4, scb_0_5, scb_1_5, scb_2_5, scb_3_5, scb_4_5, sd_li, sd_ai, sd_bi, sd_al, sd_bl, sd_ba]
    refine ih (j + 1) _ G4 G5 (by omega) (fun k hk => ?_) (fun k e' hk hke => ?_)
    · by_cases ek : k = j
      · rw [ek, pk_us]
      · rw [pk_un ek]; exact hf k (by omega)
    · by_cases ek : k = j
      · subst ek
        rw [he] at hke
        cases hke
        exact hb
      · obtain ⟨o1, o2⟩ := ho k ek
        rw [o1, o2]
        simp (decide := true) only [sx_il, sx_ia, sx_ib, sy_i, sz_i, sx_li, sx_la, sx_lb, sy_l, sz_l, sx_ai, sx_al, sx_ab, sy_a, sz_a, sx_bi, sx_bl, sx_ba, sy_b, sz_b]
        exact hr k e' (by omega) hke
theorem sp_S_slotWithFewest {A : AS} {all : Bool} {most lv : Nat} {asg : Nat → Option Nat} {s : Sg} {u : zz_St} {post : Int32 → zz_St → Prop} (hC : CS A all most asg s u) (hR : rowC A asg lv u) (hcs : cons A asg) (hlv : lv ≤ A.S.length) (h : post (oI (pkS A asg A.S.length).2) u) : wp_S_slotWithFewest (nI lv) u post := by
  obtain ⟨hB, -, -, -, -, -, -, -, h16, hU⟩ := hC
  have hG := hB.1.1
  have hns := hB.1.2.2.1
  have h24 := S_len hG
  have n80 : A.n ≤ 80 := hB.2.1.1.1
  unfold wp_S_slotWithFewest
  rw [show (24 : Int32) = nI 24 from rfl, pk_mul]
  rintro _ rfl
  refine ⟨A.S.length + 1, ?_⟩
  suffices ∀ t j, j + t = A.S.length → wp_S_slotWithFewest_14_f post (t + 1) (nI (pkS A asg j).1) (oI (pkS A asg j).2) (nI (lv * 24)) (nI j) u from this A.S.length 0 (Nat.zero_add _)
  have pk81 : ∀ j, (pkS A asg j).1 ≤ 81 := by
    intro j
    induction j with
    | zero => exact Nat.le_refl 81
    | succ j ih =>
      rw [pkS]
      split
      · have := cL_len (A := A) (asg := asg) (k := j)
        show (cL A asg j).length ≤ 81
        omega
      · exact ih
  intro t
  induction t with
  | zero =>
    intro j hj
    show wp_S_slotWithFewest_14 post _ _ _ _ _ _
    unfold wp_S_slotWithFewest_14
    rw [hns]
    have ej : j = A.S.length := by omega
    subst ej
    exact pk_le A.S.length A.S.length (fun _ => h) (fun z => absurd z (by omega))
  | succ t ih =>
    intro j hj
    have hle := pk81 j
    show wp_S_slotWithFewest_14 post _ _ _ _ _ _
    unfold wp_S_slotWithFewest_14 wp_S_slotWithFewest_100
    rw [hns, nI_clamp (n := j) (by omega), h16 j (by omega), nI_add, nI_clamp (n := lv * 24 + j) (by omega), nI_1]
    refine pk_le A.S.length j (fun z => absurd z (by omega)) (fun _ => ?_)
    refine pk_le (pkS A asg j).1 0 (fun z => ?_) (fun z => ⟨vin (by omega), ?_⟩)
    · have := pkS_zero (A := A) (asg := asg) (j := j) (by omega) (t + 1)
      rw [hj] at this
      rw [← this]
      exact h
    cases ha : asg j with
    | some w =>
      obtain ⟨e, he⟩ := S_get (A := A) (k := j) (by omega)
      have hwn := (hcs j e w he ha).1
      refine ⟨fun z => absurd z (nI_nm1 (by omega)), fun _ => ?_⟩
      · have := ih (j + 1) (by omega)
        rw [pkS, if_neg (fun q => by rw [ha] at q; cases q.1)] at this
        exact this
    | none =>
      refine ⟨fun _ => ⟨vin (by omega), ?_⟩, fun z => absurd rfl z⟩
      refine sp_JL_bitCount ⟨vin (by omega), sp_JL_bitCount ?_⟩
      have hb := hasB_andn (hR j (by omega) ha) hU
      rw [nI_add, rks_cnt (by rw [ordW_len]; omega) hb]
      have ec : ((ordW A.sc A.n).filter (fun w => pB (fitA A asg j w ∧ ¬ usedA A asg w))).length = (cL A asg j).length := rfl
      rw [ec]
      have hcl := cL_len (A := A) (asg := asg) (k := j)
      have := ih (j + 1) (by omega)
      rw [pkS] at this
      rintro _ rfl
      refine pk_le (pkS A asg j).1 (cL A asg j).length (fun q => ?_) (fun q => ?_)
      · rw [if_neg (fun z => by have := z.2; omega)] at this
        exact this
      · rw [if_pos ⟨ha, q⟩] at this
        exact this
