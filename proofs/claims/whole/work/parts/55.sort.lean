theorem bb_or {lo hi xl xh : Int64} {r i : Nat} (hl : ∀ i, gbt xl i = (decide (i = r) && decide (i < 64))) (hh : ∀ i, gbt xh i = (decide (i + 64 = r) && decide (i < 64))) (hi2 : i < 128) : bb (lo ||| xl) (hi ||| xh) i = true ↔ (bb lo hi i = true ∨ i = r) := by
  unfold bb
  by_cases h : i < 64
  · rw [if_pos h, if_pos h, gbt_or, hl, Bool.or_eq_true, Bool.and_eq_true, decide_eq_true_iff, decide_eq_true_iff]
    simp [h]
  · rw [if_neg h, if_neg h, gbt_or, hh, Bool.or_eq_true, Bool.and_eq_true, decide_eq_true_iff, decide_eq_true_iff]
    constructor
    · rintro (q | q)
      · exact Or.inl q
      · exact Or.inr (by omega)
    · rintro (q | q)
      · exact Or.inl q
      · exact Or.inr (by omega)
theorem updL_same (f : Nat → Int64) (k : Nat) (x : Int64) : vp_updL f k x k = x := if_pos rfl
theorem updL_ne (f : Nat → Int64) {k j : Nat} (x : Int64) (h : j ≠ k) : vp_updL f k x j = f j := if_neg h
def sts (u : zz_St) (f : Nat → Int32) (g0 g1 g2 g3 : Nat → Int64) : zz_St := ss_b (ss_b (ss_b (ss_b (ss_a u 12 f) 0 g0) 1 g1) 2 g2) 3 g3
def keyW (lt : Nat → Nat → Nat) (a p : Nat) : Nat := p * 26 + lt a p - 97
def setL (l : List Nat) (len : Nat → Nat) (r : Nat) (g0 g1 : Nat → Int64) : Prop := ∀ k, k < 7 → ∀ i, i < 128 → (bb (g0 k) (g1 k) i = true ↔ ∃ a, l[i]? = some a ∧ i < r ∧ len a = k)
def setK (l : List Nat) (len : Nat → Nat) (lt : Nat → Nat → Nat) (r q : Nat) (g2 g3 : Nat → Int64) : Prop := ∀ k, k < 156 → ∀ i, i < 128 → (bb (g2 k) (g3 k) i = true ↔ ∃ a p, l[i]? = some a ∧ p < len a ∧ keyW lt a p = k ∧ (i < r ∨ i = r ∧ p < q))
def rnkI (l : List Nat) (r : Nat) (f : Nat → Int32) : Prop := ∀ i a : Nat, i < r → l[i]? = some a → f a = nI i
def wrdH (n : Nat) (len : Nat → Nat) (lt : Nat → Nat → Nat) (sc : Nat → Nat) (u : zz_St) : Prop := n ≤ 80 ∧ sg_i u 4 = nI n ∧ (∀ w, w < n → 2 ≤ len w ∧ len w ≤ 6 ∧ sg_a u 9 w = nI (len w) ∧ ∀ p, p < len w → sg_a u 13 (w * 6 + p) = nI (lt w p) ∧ 97 ≤ lt w p ∧ lt w p ≤ 122) ∧ (∀ r a : Nat, (ordW sc n)[r]? = some a → sg_a u 11 r = nI a)
theorem key_lt {lt : Nat → Nat → Nat} {a p : Nat} (hp : p < 6) (h1 : 97 ≤ lt a p) (h2 : lt a p ≤ 122) : keyW lt a p < 156 ∧ p * 26 + lt a p < 2 ^ 20 ∧ 97 ≤ p * 26 + lt a p := by
  unfold keyW
  omega
theorem sp_sort94 {n : Nat} {len : Nat → Nat} {lt : Nat → Nat → Nat} {sc : Nat → Nat} {u : zz_St} {post : zz_St → Prop} {kn34 : Int32 → zz_St → Prop} {r w : Nat} {f : Nat → Int32} {g0 g1 : Nat → Int64} (hU : wrdH n len lt sc u) (hr : r < n) (hw : (ordW sc n)[r]? = some w)
    (hK : ∀ g2 g3, setK (ordW sc n) len lt (r + 1) 0 g2 g3 → kn34 (nI (r + 1)) (sts u f g0 g1 g2 g3)) : ∀ t q g2 g3, q + t = len w → setK (ordW sc n) len lt r q g2 g3 → wp_L_sortIntoSets_94_f post kn34 (t + 1) (nI r) (nI w) (nI q) (sts u f g0 g1 g2 g3) := by
  obtain ⟨hn, e4, hwd, ho⟩ := id hU
  have hwn : w < n := ordW_mem.mp (List.mem_of_getElem? hw)
  obtain ⟨l2, l6, e9, elt⟩ := hwd w hwn
  intro t
  induction t with
  | zero =>
    intro q g2 g3 hq hS
    show wp_L_sortIntoSets_94 post _ _ _ _ _ _
    unfold wp_L_sortIntoSets_94 sts
    simp (decide := true) only [sx_il, sx_ia, sx_ib, sy_i, sz_i, sx_li, sx_la, sx_lb, sy_l, sz_l, sx_ai, sx_al, sx_ab, sy_a, sz_a, sx_bi, sx_bl, sx_ba, sy_b, sz_b]
    rw [nI_clamp (n := w) (by omega), e9, nI_1]
    refine ⟨pk_in w 80 (by omega), pk_le (len w) q (fun _ => hK g2 g3 ?_) (fun z => absurd z (by omega))⟩
    intro k hk i hi
    rw [hS k hk i hi]
    constructor
    · rintro ⟨a, p, h1, h2, h3, h4⟩
      exact ⟨a, p, h1, h2, h3, by omega⟩
    · rintro ⟨a, p, h1, h2, h3, h4⟩
      refine ⟨a, p, h1, h2, h3, ?_⟩
      rcases Nat.lt_or_ge i r with z | z
      · exact Or.inl z
      · have : i = r := by omega
        subst this
        rw [hw] at h1
        cases h1
        exact Or.inr ⟨rfl, by omega⟩
  | succ t ih =>
    intro q g2 g3 hq hS
    obtain ⟨elq, b1, b2⟩ := elt q (by omega)
    obtain ⟨k1, k2, k3⟩ := key_lt (lt := lt) (a := w) (p := q) (by omega) b1 b2
    show wp_L_sortIntoSets_94 post _ _ _ _ _ _
    unfold wp_L_sortIntoSets_94 sts
    simp (decide := true) only [sx_il, sx_ia, sx_ib, sy_i, sz_i, sx_li, sx_la, sx_lb, sy_l, sz_l, sx_ai, sx_al, sx_ab, sy_a, sz_a, sx_bi, sx_bl, sx_ba, sy_b, sz_b]
    rw [nI_clamp (n := w) (by omega), e9]
    refine ⟨pk_in w 80 (by omega), pk_le (len w) q (fun z => absurd z (by omega)) (fun _ => ?_)⟩
    unfold wp_L_letterOf wp_L_keyOf
    simp (decide := true) only [sx_il, sx_ia, sx_ib, sy_i, sz_i, sx_li, sx_la, sx_lb, sy_l, sz_l, sx_ai, sx_al, sx_ab, sy_a, sz_a, sx_bi, sx_bl, sx_ba, sy_b, sz_b]
    have ei : nI w * 6 + nI q = nI (w * 6 + q) := by rw [show (6 : Int32) = nI 6 from rfl, pk_mul, nI_add]
    have ek : nI q * 26 + nI (lt w q) - 97 = nI (keyW lt w q) := by rw [show (26 : Int32) = nI 26 from rfl, show (97 : Int32) = nI 97 from rfl, pk_mul, nI_add, pk_sub k3]; rfl
    rw [ei, nI_clamp (n := w * 6 + q) (by omega), elq, ek, nI_clamp (n := keyW lt w q) (by omega)]
    refine ⟨pk_in (w * 6 + q) 480 (by omega), pk_in (keyW lt w q) 156 k1, ?_⟩
    refine sp_L_lowBit (by omega) (fun xl hxl v hv => ⟨pk_in (keyW lt w q) 156 k1, pk_in (keyW lt w q) 156 k1, ?_⟩)
    simp (decide := true) only [sx_il, sx_ia, sx_ib, sy_i, sz_i, sx_li, sx_la, sx_lb, sy_l, sz_l, sx_ai, sx_al, sx_ab, sy_a, sz_a, sx_bi, sx_bl, sx_ba, sy_b, sz_b]
    refine sp_L_highBit (by omega) (fun xh hxh v2 hv2 => ⟨pk_in (keyW lt w q) 156 k1, ?_⟩)
    rw [nI_1, hv, hv2]
    simp (decide := true) only [sx_il, sx_ia, sx_ib, sy_i, sz_i, sx_li, sx_la, sx_lb, sy_l, sz_l, sx_ai, sx_al, sx_ab, sy_a, sz_a, sx_bi, sx_bl, sx_ba, sy_b, sz_b, so_i, so_l, so_a, so_b, sci_0_1, sci_0_2, sci_1_2, sci_0_3, sci_1_3, sci_2_3, sci_0_4, sci_1_4, sci_2_4, sci_3_4, sci_0_5, sci_1_5, sci_2_5, sci_3_5, sci_4_5, sci_0_6, sci_1_6, sci_2_6, sci_3_6, sci_4_6, sci_5_6, sci_0_7, sci_1_7, sci_2_7, sci_3_7, sci_4_7, sci_5_7, sci_6_7, sci_0_8, sci_1_8, sci_2_8, sci_3_8, sci_4_8, sci_5_8, sci_6_8, sci_7_8, sci_0_9, sci_1_9, sci_2_9, sci_3_9, sci_4_9, sci_5_9, sci_6_9, sci_7_9, sci_8_9, sci_0_10, sci_1_10, sci_2_10, sci_3_10, sci_4_10, sci_5_10, sci_6_10, sci_7_10, sci_8_10, sci_9_10, sci_0_11, sci_1_11, sci_2_11, sci_3_11, sci_4_11, sci_5_11, sci_6_11, sci_7_11, sci_8_11, sci_9_11, sci_10_11, sci_0_12, sci_1_12, sci_2_12, sci_3_12, sci_4_12, sci_5_12, sci_6_12, sci_7_12, sci_8_12, sci_9_12, sci_10_12, sci_11_12, scl_0_1, sca_0_1, sca_0_2, sca_1_2, sca_0_3, sca_1_3, sca_2_3, sca_0_4, sca_1_4, sca_2_4, sca_3_4, sca_0_5, sca_1_5, sca_2_5, sca_3_5, sca_4_5, sca_0_6, sca_1_6, sca_2_6, sca_3_6, sca_4_6, sca_5_6, sca_0_7, sca_1_7, sca_2_7, sca_3_7, sca_4_7, sca_5_7, sca_6_7, sca_0_8, sca_1_8, sca_2_8, sca_3_8, sca_4_8, sca_5_8, sca_6_8, sca_7_8, sca_0_9, sca_1_9, sca_2_9, sca_3_9, sca_4_9, sca_5_9, sca_6_9, sca_7_9, sca_8_9, sca_0_10, sca_1_10, sca_2_10, sca_3_10, sca_4_10, sca_5_10, sca_6_10, sca_7_10, sca_8_10, sca_9_10, sca_0_11, sca_1_11, sca_2_11, sca_3_11, sca_4_11, sca_5_11, sca_6_11, sca_7_11, sca_8_11, sca_9_11, sca_10_11, sca_0_12, sca_1_12, sca_2_12, sca_3_12, sca_4_12, sca_5_12, sca_6_12, sca_7_12, sca_8_12, sca_9_12, sca_10_12, sca_11_12, sca_0_13, sca_1_13, sca_2_13, sca_3_13, sca_4_13, sca_5_13, sca_6_13, sca_7_13, sca_8_13, sca_9_13, sca_10_13, sca_11_13, sca_12_13, sca_0_14, sca_1_14, sca_2_14, sca_3_14, sca_4_14, sca_5_14, sca_6_14, sca_7_14, sca_8_14, sca_9_14, sca_10_14, sca_11_14, sca_12_14, sca_13_14, sca_0_15, sca_1_15, sca_2_15, sca_3_15, sca_4_15, sca_5_15, sca_6_15, sca_7_15, sca_8_15, sca_9_15, sca_10_15, sca_11_15, sca_12_15, sca_13_15, sca_14_15, sca_0_16, sca_1_16, sca_2_16, sca_3_16, sca_4_16, sca_5_16, sca_6_16, sca_7_16, sca_8_16, sca_9_16, sca_10_16, sca_11_16, sca_12_16, sca_13_16, sca_14_16, sca_15_16, sca_0_17, sca_1_17, sca_2_17, sca_3_17, sca_4_17, sca_5_17, sca_6_17, sca_7_17, sca_8_17, sca_9_17, sca_10_17, sca_11_17, sca_12_17, sca_13_17, sca_14_17, sca_15_17, sca_16_17, scb_0_1, scb_0_2, scb_1_2, scb_0_3, scb_1_3, scb_2_3, scb_0_4, scb_1_4, scb_2_4, scb_3_4, scb_0_5, scb_1_5, scb_2_5, scb_3_5, scb_4_5, sd_li, sd_ai, sd_bi, sd_al, sd_bl, sd_ba]
    refine ih (q + 1) _ _ (by omega) ?_
    intro k hk i hi
    by_cases e : k = keyW lt w q
    · subst e
      rw [updL_same, updL_same, bb_or hxl hxh hi, hS _ hk i hi]
      constructor
      · rintro (⟨a, p, h1, h2, h3, h4⟩ | rfl)
        · exact ⟨a, p, h1, h2, h3, by omega⟩
        · exact ⟨w, q, hw, by omega, rfl, Or.inr ⟨rfl, by omega⟩⟩
      · rintro ⟨a, p, h1, h2, h3, h4⟩
        by_cases z : i = r
        · exact Or.inr z
        · exact Or.inl ⟨a, p, h1, h2, h3, by omega⟩
    · rw [updL_ne _ _ e, updL_ne _ _ e, hS _ hk i hi]
      constructor
      · rintro ⟨a, p, h1, h2, h3, h4⟩
        exact ⟨a, p, h1, h2, h3, by omega⟩
      · rintro ⟨a, p, h1, h2, h3, h4⟩
        refine ⟨a, p, h1, h2, h3, ?_⟩
        rcases h4 with z | ⟨z1, z2⟩
        · exact Or.inl z
        · subst z1
          rw [hw] at h1
          cases h1
          have : p ≠ q := fun z => e (by rw [← h3, z])
          exact Or.inr ⟨rfl, by omega⟩
theorem sp_sort34 {n : Nat} {len : Nat → Nat} {lt : Nat → Nat → Nat} {sc : Nat → Nat} {u : zz_St} {post : zz_St → Prop} (hU : wrdH n len lt sc u)
    (h : ∀ f g0 g1 g2 g3, rnkI (ordW sc n) n f → setL (ordW sc n) len n g0 g1 → setK (ordW sc n) len lt n 0 g2 g3 → post (sts u f g0 g1 g2 g3)) : ∀ t r f g0 g1 g2 g3, r + t = n → rnkI (ordW sc n) r f → setL (ordW sc n) len r g0 g1 → setK (ordW sc n) len lt r 0 g2 g3 → wp_L_sortIntoSets_34_f post (t + 1) (nI r) (sts u f g0 g1 g2 g3) := by
  obtain ⟨hn, e4, hwd, ho⟩ := id hU
  intro t
  induction t with
  | zero =>
    intro r f g0 g1 g2 g3 hr h1 h2 h3
    have e : r = n := by omega
    subst e
    show wp_L_sortIntoSets_34 post _ _ _
    unfold wp_L_sortIntoSets_34
    have e4' : sg_i (sts u f g0 g1 g2 g3) 4 = nI r := by unfold sts; simp (decide := true) only [sx_il, sx_ia, sx_ib, sy_i, sz_i, sx_li, sx_la, sx_lb, sy_l, sz_l, sx_ai, sx_al, sx_ab, sy_a, sz_a, sx_bi, sx_bl, sx_ba, sy_b, sz_b]; exact e4
    rw [e4']
    exact pk_le r r (fun _ => h f g0 g1 g2 g3 h1 h2 h3) (fun z => absurd z (by omega))
  | succ t ih =>
    intro r f g0 g1 g2 g3 hr h1 h2 h3
    obtain ⟨w, hw⟩ : ∃ w, (ordW sc n)[r]? = some w := ⟨_, List.getElem?_eq_getElem (by rw [ordW_len]; omega)⟩
    have hwn : w < n := ordW_mem.mp (List.mem_of_getElem? hw)
    obtain ⟨l2, l6, e9, elt⟩ := hwd w hwn
    show wp_L_sortIntoSets_34 post _ _ _
    unfold wp_L_sortIntoSets_34 sts
    simp (decide := true) only [sx_il, sx_ia, sx_ib, sy_i, sz_i, sx_li, sx_la, sx_lb, sy_l, sz_l, sx_ai, sx_al, sx_ab, sy_a, sz_a, sx_bi, sx_bl, sx_ba, sy_b, sz_b]
    rw [e4, nI_clamp (n := r) (by omega), ho r w hw]
    refine pk_le n r (fun z => absurd z (by omega)) (fun _ => ⟨pk_in r 80 (by omega), fun v6 e6 => ?_⟩)
    subst e6
    rw [nI_clamp (n := w) (by omega), e9, nI_clamp (n := len w) (by omega)]
    refine ⟨pk_in w 80 (by omega), pk_in w 80 (by omega), pk_in (len w) 7 (by omega), ?_⟩
    refine sp_L_lowBit (by omega) (fun xl hxl v hv => ?_)
    simp (decide := true) only [sx_il, sx_ia, sx_ib, sy_i, sz_i, sx_li, sx_la, sx_lb, sy_l, sz_l, sx_ai, sx_al, sx_ab, sy_a, sz_a, sx_bi, sx_bl, sx_ba, sy_b, sz_b]
    rw [e9, nI_clamp (n := len w) (by omega)]
    refine ⟨pk_in (len w) 7 (by omega), pk_in w 80 (by omega), pk_in (len w) 7 (by omega), ?_⟩
    refine sp_L_highBit (by omega) (fun xh hxh v2 hv2 => ⟨pk_in (len w) 7 (by omega), len w + 1, ?_⟩)
    rw [hv, hv2]
    simp (decide := true) only [sx_il, sx_ia, sx_ib, sy_i, sz_i, sx_li, sx_la, sx_lb, sy_l, sz_l, sx_ai, sx_al, sx_ab, sy_a, sz_a, sx_bi, sx_bl, sx_ba, sy_b, sz_b, so_i, so_l, so_a, so_b, sci_0_1, sci_0_2, sci_1_2, sci_0_3, sci_1_3, sci_2_3, sci_0_4, sci_1_4, sci_2_4, sci_3_4, sci_0_5, sci_1_5, sci_2_5, sci_3_5, sci_4_5, sci_0_6, sci_1_6, sci_2_6, sci_3_6, sci_4_6, sci_5_6, sci_0_7, sci_1_7, sci_2_7, sci_3_7, sci_4_7, sci_5_7, sci_6_7, sci_0_8, sci_1_8, sci_2_8, sci_3_8, sci_4_8, sci_5_8, sci_6_8, sci_7_8, sci_0_9, sci_1_9, sci_2_9, sci_3_9, sci_4_9, sci_5_9, sci_6_9, sci_7_9, sci_8_9, sci_0_10, sci_1_10, sci_2_10, sci_3_10, sci_4_10, sci_5_10, sci_6_10, sci_7_10, sci_8_10, sci_9_10, sci_0_11, sci_1_11, sci_2_11, sci_3_11, sci_4_11, sci_5_11, sci_6_11, sci_7_11, sci_8_11, sci_9_11, sci_10_11, sci_0_12, sci_1_12, sci_2_12, sci_3_12, sci_4_12, sci_5_12, sci_6_12, sci_7_12, sci_8_12, sci_9_12, sci_10_12, sci_11_12, scl_0_1, sca_0_1, sca_0_2, sca_1_2, sca_0_3, sca_1_3, sca_2_3, sca_0_4, sca_1_4, sca_2_4, sca_3_4, sca_0_5, sca_1_5, sca_2_5, sca_3_5, sca_4_5, sca_0_6, sca_1_6, sca_2_6, sca_3_6, sca_4_6, sca_5_6, sca_0_7, sca_1_7, sca_2_7, sca_3_7, sca_4_7, sca_5_7, sca_6_7, sca_0_8, sca_1_8, sca_2_8, sca_3_8, sca_4_8, sca_5_8, sca_6_8, sca_7_8, sca_0_9, sca_1_9, sca_2_9, sca_3_9, sca_4_9, sca_5_9, sca_6_9, sca_7_9, sca_8_9, sca_0_10, sca_1_10, sca_2_10, sca_3_10, sca_4_10, sca_5_10, sca_6_10, sca_7_10, sca_8_10, sca_9_10, sca_0_11, sca_1_11, sca_2_11, sca_3_11, sca_4_11, sca_5_11, sca_6_11, sca_7_11, sca_8_11, sca_9_11, sca_10_11, sca_0_12, sca_1_12, sca_2_12, sca_3_12, sca_4_12, sca_5_12, sca_6_12, sca_7_12, sca_8_12, sca_9_12, sca_10_12, sca_11_12, sca_0_13, sca_1_13, sca_2_13, sca_3_13, sca_4_13, sca_5_13, sca_6_13, sca_7_13, sca_8_13, sca_9_13, sca_10_13, sca_11_13, sca_12_13, sca_0_14, sca_1_14, sca_2_14, sca_3_14, sca_4_14, sca_5_14, sca_6_14, sca_7_14, sca_8_14, sca_9_14, sca_10_14, sca_11_14, sca_12_14, sca_13_14, sca_0_15, sca_1_15, sca_2_15, sca_3_15, sca_4_15, sca_5_15, sca_6_15, sca_7_15, sca_8_15, sca_9_15, sca_10_15, sca_11_15, sca_12_15, sca_13_15, sca_14_15, sca_0_16, sca_1_16, sca_2_16, sca_3_16, sca_4_16, sca_5_16, sca_6_16, sca_7_16, sca_8_16, sca_9_16, sca_10_16, sca_11_16, sca_12_16, sca_13_16, sca_14_16, sca_15_16, sca_0_17, sca_1_17, sca_2_17, sca_3_17, sca_4_17, sca_5_17, sca_6_17, sca_7_17, sca_8_17, sca_9_17, sca_10_17, sca_11_17, sca_12_17, sca_13_17, sca_14_17, sca_15_17, sca_16_17, scb_0_1, scb_0_2, scb_1_2, scb_0_3, scb_1_3, scb_2_3, scb_0_4, scb_1_4, scb_2_4, scb_3_4, scb_0_5, scb_1_5, scb_2_5, scb_3_5, scb_4_5, sd_li, sd_ai, sd_bi, sd_al, sd_bl, sd_ba]
    refine sp_sort94 (f := upd f w (nI r)) (g0 := vp_updL g0 (len w) (g0 (len w) ||| xl)) (g1 := vp_updL g1 (len w) (g1 (len w) ||| xh)) hU (by omega) hw (fun g2' g3' hS => ?_) (len w) 0 g2 g3 (Nat.zero_add _) h3
    refine ih (r + 1) _ _ _ _ _ (by omega) ?_ ?_ hS
    · intro i a hi ha
      unfold upd
      by_cases z : i = r
      · subst z
        rw [hw] at ha
        cases ha
        rw [if_pos rfl]
      · have : a ≠ w := by
          intro e
          subst e
          obtain ⟨q1, q2⟩ := List.getElem?_eq_some_iff.mp ha
          obtain ⟨q3, q4⟩ := List.getElem?_eq_some_iff.mp hw
          exact z ((List.getElem_inj ordW_nodup).mp (q2.trans q4.symm))
        rw [if_neg this]
        exact h1 i a (by omega) ha
    · intro k hk i hi
      by_cases e : k = len w
      · subst e
        rw [updL_same, updL_same, bb_or hxl hxh hi, h2 _ hk i hi]
        constructor
        · rintro (⟨a, q1, q2, q3⟩ | rfl)
          · exact ⟨a, q1, by omega, q3⟩
          · exact ⟨w, hw, by omega, rfl⟩
        · rintro ⟨a, q1, q2, q3⟩
          by_cases z : i = r
          · exact Or.inr z
          · exact Or.inl ⟨a, q1, by omega, q3⟩
      · rw [updL_ne _ _ e, updL_ne _ _ e, h2 _ hk i hi]
        constructor
        · rintro ⟨a, q1, q2, q3⟩
          exact ⟨a, q1, by omega, q3⟩
        · rintro ⟨a, q1, q2, q3⟩
          refine ⟨a, q1, ?_, q3⟩
          rcases Nat.lt_or_ge i r with z | z
          · exact z
          · have : i = r := by omega
            subst this
            rw [hw] at q1
            cases q1
            exact absurd q3.symm e
theorem sp_L_sortIntoSets {n : Nat} {len : Nat → Nat} {lt : Nat → Nat → Nat} {sc : Nat → Nat} {u : zz_St} {post : zz_St → Prop} (hU : wrdH n len lt sc u)
    (h : ∀ f g0 g1 g2 g3, rnkI (ordW sc n) n f → setL (ordW sc n) len n g0 g1 → setK (ordW sc n) len lt n 0 g2 g3 → post (sts u f g0 g1 g2 g3)) : wp_L_sortIntoSets u post := by
  refine sp_JA_fillJ_LlowOfLength (sp_JA_fillJ_LhighOfLength (sp_JA_fillJ_LlowOfKey (sp_JA_fillJ_LhighOfKey ⟨n + 1, ?_⟩)))
  have e0 : ∀ F0 F1 F2 F3 : Nat → Int64, ss_b (ss_b (ss_b (ss_b u 0 F0) 1 F1) 2 F2) 3 F3 = sts u (sg_a u 12) F0 F1 F2 F3 := by
    intro F0 F1 F2 F3
    unfold sts
    rw [ss_a_id]
  rw [e0]
  refine sp_sort34 hU h n 0 _ _ _ _ _ (Nat.zero_add n) (fun i a q => absurd q (Nat.not_lt_zero i)) ?_ ?_
  · intro k hk i hi
    rw [flJ_in hk, flJ_in hk]
    constructor
    · intro q
      unfold bb at q
      split at q <;> (rw [gbt_0] at q; cases q)
    · rintro ⟨a, q1, q2, q3⟩
      exact absurd q2 (Nat.not_lt_zero i)
  · intro k hk i hi
    rw [flJ_in hk, flJ_in hk]
    constructor
    · intro q
      unfold bb at q
      split at q <;> (rw [gbt_0] at q; cases q)
    · rintro ⟨a, p, q1, q2, q3, q4⟩
      omega
