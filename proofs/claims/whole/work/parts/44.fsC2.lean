theorem nI_sub_eq {a b x : Nat} (ha : a < 2 ^ 30) (hb : b < 2 ^ 30) (hx : x < 2 ^ 30) (h : nI a - nI b = nI x) : b ≤ a ∧ x = a - b := by
  have h1 := congrArg Int32.toInt h
  rw [pk_sub_toInt ha hb, nI_toInt (by omega)] at h1
  omega
theorem prv_iff {W H : Nat} {bl : Nat → Nat} {d x y : Nat} (hW : W ≤ 6) (hH : H ≤ 6) (hd : d < 2) (hx : x < W) (hy : y < H) : prv W H bl d x y = true ↔ ∃ x' y' : Nat, opn W H bl x' y' = true ∧ nI x - nI (1 - d) = nI x' ∧ nI y - nI d = nI y' := by
  constructor
  · intro h
    unfold prv at h
    split at h
    · rename_i e
      simp only [Bool.and_eq_true, decide_eq_true_eq] at h
      subst e
      exact ⟨x - 1, y, h.2, pk_sub h.1, pk_sub (Nat.zero_le y)⟩
    · rename_i e
      simp only [Bool.and_eq_true, decide_eq_true_eq] at h
      have e1 : d = 1 := by omega
      subst e1
      exact ⟨x, y - 1, h.2, pk_sub (Nat.zero_le x), pk_sub h.1⟩
  · rintro ⟨x', y', ho, e1, e2⟩
    obtain ⟨o1, o2, -⟩ := opn_iff.mp ho
    obtain ⟨q1, q2⟩ := nI_sub_eq (by omega) (by omega) (by omega) e1
    obtain ⟨q3, q4⟩ := nI_sub_eq (by omega) (by omega) (by omega) e2
    unfold prv
    split
    · rename_i e
      subst e
      rw [q2, q4] at ho
      simp only [Bool.and_eq_true, decide_eq_true_eq]
      exact ⟨q1, ho⟩
    · have e1 : d = 1 := by omega
      subst e1
      rw [q2, q4] at ho
      simp only [Bool.and_eq_true, decide_eq_true_eq]
      exact ⟨q3, ho⟩
theorem sp_G_isOpenN {W H : Nat} {bl : Nat → Nat} {x y : Nat} {u : zz_St} {post : Int32 → zz_St → Prop} (hG : rG W H bl (sg_i u 0) (sg_i u 1) (sg_a u 0)) (hx : x < 2 ^ 30) (hy : y < 2 ^ 30)
    (h1 : opn W H bl x y = true → post 1 u) (h0 : opn W H bl x y = false → post 0 u) : wp_G_isOpen (nI x) (nI y) u post := by
  obtain ⟨w1, w2, w3, w4, -⟩ := id hG
  refine sp_G_isOpen hG (fun x' y' o e1 e2 => ?_) (fun q => h0 ?_)
  · obtain ⟨o1, o2, -⟩ := opn_iff.mp o
    have q1 : x = x' := nI_inj (by omega) (by omega) e1
    have q2 : y = y' := nI_inj (by omega) (by omega) e2
    subst q1; subst q2
    exact h1 o
  · cases h : opn W H bl x y with
    | false => rfl
    | true => exact (q x y h rfl rfl).elim
theorem sp_M_isOpenN {W H : Nat} {bl : Nat → Nat} {x y : Nat} {u : zz_St} {post : Int32 → zz_St → Prop} (hG : rG W H bl (sg_i u 1) (sg_i u 2) (sg_a u 0)) (hx : x < 2 ^ 30) (hy : y < 2 ^ 30)
    (h1 : opn W H bl x y = true → post 1 u) (h0 : opn W H bl x y = false → post 0 u) : wp_M_isOpen (nI x) (nI y) u post := by
  obtain ⟨w1, w2, w3, w4, -⟩ := id hG
  refine sp_M_isOpen hG (fun x' y' o e1 e2 => ?_) (fun q => h0 ?_)
  · obtain ⟨o1, o2, -⟩ := opn_iff.mp o
    have q1 : x = x' := nI_inj (by omega) (by omega) e1
    have q2 : y = y' := nI_inj (by omega) (by omega) e2
    subst q1; subst q2
    exact h1 o
  · cases h : opn W H bl x y with
    | false => rfl
    | true => exact (q x y h rfl rfl).elim
theorem rlen_bd {W H : Nat} {bl : Nat → Nat} {d x y : Nat} (hd : d < 2) (hW : W ≤ 6) (hH : H ≤ 6) {j : Nat} (hj : j ≤ 6) : x < W → y < H → x + j * (1 - d) < 2 ^ 30 ∧ y + j * d < 2 ^ 30 := by
  intro hx hy
  rcases (show d = 0 ∨ d = 1 by omega) with rfl | rfl <;> omega
def addS (W : Nat) (u : zz_St) (n : Nat) (e : Nat × Nat × Nat) : zz_St := ss_a (ss_a (ss_a (ss_a (ss_a (ss_i u 3 (nI (n + 1))) 2 (upd (sg_a u 2) n (nI e.1))) 3 (upd (sg_a u 3) n (nI e.2.1))) 4 (upd (sg_a u 4) n (nI e.2.2))) 6 (mkf (fun p => e.2.2 * 36 + celp W e p) (fun _ => nI n) e.2.1 (sg_a u 6))) 7 (mkf (fun p => e.2.2 * 36 + celp W e p) (fun p => nI p) e.2.1 (sg_a u 7))
theorem sp_G_add70 {W H : Nat} {bl : Nat → Nat} {n d x y k : Nat} {u : zz_St} {post : zz_St → Prop} (hG : rG W H bl (sg_i u 0) (sg_i u 1) (sg_a u 0)) (hn : sg_i u 3 = nI n) (hd : d < 2) (hx : x < W) (hy : y < H) (hk : rlen W H bl d 6 x y = k) (hp : prv W H bl d x y = false) (h24 : isSt W H bl d (x + W * y) = true → n < 24)
    (h1 : isSt W H bl d (x + W * y) = true → post (addS W u n (mkS W H bl d (x + W * y)))) (h0 : isSt W H bl d (x + W * y) = false → post u) : wp_G_addSlotFrom_70 post (nI x) (nI y) (nI d) (nI k) u := by
  obtain ⟨w1, w2, w3, w4, ew, eh, hb⟩ := id hG
  have hk6 := rlen_le W H bl d 6 x y
  rw [hk] at hk6
  unfold wp_G_addSlotFrom_70
  have est : isSt W H bl d (x + W * y) = decide (2 ≤ k) := by
    unfold isSt
    rw [mod_cell hx, div_cell hx, hk, hp]
    simp
  refine pk_lt k 2 (fun q => h0 (by rw [est]; simp; omega)) (fun q => ?_)
  have hst : isSt W H bl d (x + W * y) = true := by rw [est]; simp; omega
  have hn24 := h24 hst
  rw [hn]
  refine pk_le 24 n (fun q => absurd q (by omega)) (fun _ => ?_)
  refine sp_G_cellAt hG (fun x' y' hx' hy' e1 e2 => ?_) (fun q => (q x y hx hy rfl rfl).elim)
  have q1 : x = x' := nI_inj (by omega) (by omega) e1
  have q2 : y = y' := nI_inj (by omega) (by omega) e2
  subst q1; subst q2
  rw [hn, pk_cl n]
  refine ⟨pk_in n 24 hn24, pk_in n 24 hn24, pk_in n 24 hn24, ?_⟩
  have hlt := cell_lt hx hy
  have h36 := WH_le w2 w4
  have hmk : mkS W H bl d (x + W * y) = (x + W * y, k, d) := by
    unfold mkS
    rw [mod_cell hx, div_cell hx, hk]
  refine sp_G_markCells (c := x + W * y) (n := k) (d := d) (W := W) hn24 (by simp (decide := true) only [sx_il, sx_ia, sx_ib, sy_i, sz_i, sx_li, sx_la, sx_lb, sy_l, sz_l, sx_ai, sx_al, sx_ab, sy_a, sz_a, sx_bi, sx_bl, sx_ba, sy_b, sz_b]; simp [upd]) (by simp (decide := true) only [sx_il, sx_ia, sx_ib, sy_i, sz_i, sx_li, sx_la, sx_lb, sy_l, sz_l, sx_ai, sx_al, sx_ab, sy_a, sz_a, sx_bi, sx_bl, sx_ba, sy_b, sz_b]; simp [upd]) (by simp (decide := true) only [sx_il, sx_ia, sx_ib, sy_i, sz_i, sx_li, sx_la, sx_lb, sy_l, sz_l, sx_ai, sx_al, sx_ab, sy_a, sz_a, sx_bi, sx_bl, sx_ba, sy_b, sz_b]; simp [upd]) (by simp (decide := true) only [sx_il, sx_ia, sx_ib, sy_i, sz_i, sx_li, sx_la, sx_lb, sy_l, sz_l, sx_ai, sx_al, sx_ab, sy_a, sz_a, sx_bi, sx_bl, sx_ba, sy_b, sz_b]; exact ew) hd hk6 (fun p hpk => ?_) ?_
  · rw [← hmk, celp_mk hd, mod_cell hx, div_cell hx]
    obtain ⟨o1, o2, -⟩ := opn_iff.mp (rlen_op (W := W) (H := H) (bl := bl) (d := d) (f := 6) (x := x) (y := y) (p := p) (by omega))
    have := cell_lt o1 o2
    omega
  · intro v ev
    have h9 := h1 hst
    rw [hmk] at h9
    unfold addS at h9
    subst ev
    simp (decide := true) only [sx_il, sx_ia, sx_ib, sy_i, sz_i, sx_li, sx_la, sx_lb, sy_l, sz_l, sx_ai, sx_al, sx_ab, sy_a, sz_a, sx_bi, sx_bl, sx_ba, sy_b, sz_b, so_i, so_l, so_a, so_b, sci_0_1, sci_0_2, sci_1_2, sci_0_3, sci_1_3, sci_2_3, sci_0_4, sci_1_4, sci_2_4, sci_3_4, sci_0_5, sci_1_5, sci_2_5, sci_3_5, sci_4_5, sci_0_6, sci_1_6, sci_2_6, sci_3_6, sci_4_6, sci_5_6, sci_0_7, sci_1_7, sci_2_7, sci_3_7, sci_4_7, sci_5_7, sci_6_7, sci_0_8, sci_1_8, sci_2_8, sci_3_8, sci_4_8, sci_5_8, sci_6_8, sci_7_8, sci_0_9, sci_1_9, sci_2_9, sci_3_9, sci_4_9, sci_5_9, sci_6_9, sci_7_9, sci_8_9, sci_0_10, sci_1_10, sci_2_10, sci_3_10, sci_4_10, sci_5_10, sci_6_10, sci_7_10, sci_8_10, sci_9_10, sci_0_11, sci_1_11, sci_2_11, sci_3_11, sci_4_11, sci_5_11, sci_6_11, sci_7_11, sci_8_11, sci_9_11, sci_10_11, sci_0_12, sci_1_12, sci_2_12, sci_3_12, sci_4_12, sci_5_12, sci_6_12, sci_7_12, sci_8_12, sci_9_12, sci_10_12, sci_11_12, scl_0_1, sca_0_1, sca_0_2, sca_1_2, sca_0_3, sca_1_3, sca_2_3, sca_0_4, sca_1_4, sca_2_4, sca_3_4, sca_0_5, sca_1_5, sca_2_5, sca_3_5, sca_4_5, sca_0_6, sca_1_6, sca_2_6, sca_3_6, sca_4_6, sca_5_6, sca_0_7, sca_1_7, sca_2_7, sca_3_7, sca_4_7, sca_5_7, sca_6_7, sca_0_8, sca_1_8, sca_2_8, sca_3_8, sca_4_8, sca_5_8, sca_6_8, sca_7_8, sca_0_9, sca_1_9, sca_2_9, sca_3_9, sca_4_9, sca_5_9, sca_6_9, sca_7_9, sca_8_9, sca_0_10, sca_1_10, sca_2_10, sca_3_10, sca_4_10, sca_5_10, sca_6_10, sca_7_10, sca_8_10, sca_9_10, sca_0_11, sca_1_11, sca_2_11, sca_3_11, sca_4_11, sca_5_11, sca_6_11, sca_7_11, sca_8_11, sca_9_11, sca_10_11, sca_0_12, sca_1_12, sca_2_12, sca_3_12, sca_4_12, sca_5_12, sca_6_12, sca_7_12, sca_8_12, sca_9_12, sca_10_12, sca_11_12, sca_0_13, sca_1_13, sca_2_13, sca_3_13, sca_4_13, sca_5_13, sca_6_13, sca_7_13, sca_8_13, sca_9_13, sca_10_13, sca_11_13, sca_12_13, sca_0_14, sca_1_14, sca_2_14, sca_3_14, sca_4_14, sca_5_14, sca_6_14, sca_7_14, sca_8_14, sca_9_14, sca_10_14, sca_11_14, sca_12_14, sca_13_14, sca_0_15, sca_1_15, sca_2_15, sca_3_15, sca_4_15, sca_5_15, sca_6_15, sca_7_15, sca_8_15, sca_9_15, sca_10_15, sca_11_15, sca_12_15, sca_13_15, sca_14_15, sca_0_16, sca_1_16, sca_2_16, sca_3_16, sca_4_16, sca_5_16, sca_6_16, sca_7_16, sca_8_16, sca_9_16, sca_10_16, sca_11_16, sca_12_16, sca_13_16, sca_14_16, sca_15_16, sca_0_17, sca_1_17, sca_2_17, sca_3_17, sca_4_17, sca_5_17, sca_6_17, sca_7_17, sca_8_17, sca_9_17, sca_10_17, sca_11_17, sca_12_17, sca_13_17, sca_14_17, sca_15_17, sca_16_17, scb_0_1, scb_0_2, scb_1_2, scb_0_3, scb_1_3, scb_2_3, scb_0_4, scb_1_4, scb_2_4, scb_3_4, scb_0_5, scb_1_5, scb_2_5, scb_3_5, scb_4_5, sd_li, sd_ai, sd_bi, sd_al, sd_bl, sd_ba]
    rw [hn, nI_1]
    exact h9
theorem sp_G_addSlotFrom {W H : Nat} {bl : Nat → Nat} {n d x y : Nat} {u : zz_St} {post : zz_St → Prop} (hG : rG W H bl (sg_i u 0) (sg_i u 1) (sg_a u 0)) (hn : sg_i u 3 = nI n) (hd : d < 2) (hx : x < W) (hy : y < H) (h24 : isSt W H bl d (x + W * y) = true → n < 24)
    (h1 : isSt W H bl d (x + W * y) = true → post (addS W u n (mkS W H bl d (x + W * y)))) (h0 : isSt W H bl d (x + W * y) = false → post u) : wp_G_addSlotFrom (nI x) (nI y) (nI d) u post := by
  obtain ⟨w1, w2, w3, w4, ew, eh, hb⟩ := id hG
  have key : wp_G_addSlotFrom_9 post (nI x) (nI y) (nI d) (nI (1 - d)) u := by
    unfold wp_G_addSlotFrom_9
    intro v ev
    have ev2 : v = nI d := by
      rw [ev, show (1 : Int32) = nI 1 from rfl, pk_sub (by omega)]
      congr 1
      omega
    subst ev2
    refine sp_G_isOpen hG (fun x' y' o e1 e2 => ?_) (fun q => ?_)
    · refine ⟨fun c => absurd c (by decide), fun _ => h0 ?_⟩
      have hp : prv W H bl d x y = true := (prv_iff w2 w4 hd hx hy).mpr ⟨x', y', o, e1, e2⟩
      unfold isSt
      rw [mod_cell hx, div_cell hx, hp]
      simp
    · refine ⟨fun _ => ?_, fun c => absurd rfl c⟩
      have hp : prv W H bl d x y = false := by
        cases h : prv W H bl d x y with
        | false => rfl
        | true =>
          obtain ⟨x', y', o, e1, e2⟩ := (prv_iff w2 w4 hd hx hy).mp h
          exact (q x' y' o e1 e2).elim
      suffices ∀ r j, j + r = 6 → (∀ p, p < j → opn W H bl (x + p * (1 - d)) (y + p * d) = true) → ∃ m, wp_G_addSlotFrom_36_f post m (nI x) (nI y) (nI d) (nI (1 - d)) (nI d) (nI j) u from this 6 0 rfl (fun p hp => absurd hp (Nat.not_lt_zero p))
      intro r
      induction r with
      | zero =>
        intro j hj ho
        have : j = 6 := by omega
        subst this
        refine ⟨1, ?_⟩
        show wp_G_addSlotFrom_36 post _ _ _ _ _ _ _ _
        unfold wp_G_addSlotFrom_36
        refine pk_le 6 6 (fun _ => sp_G_add70 hG hn hd hx hy (rlen_eq (Nat.le_refl 6) ho (Or.inl rfl)) hp h24 h1 h0) (fun q => absurd q (by omega))
      | succ r ih =>
        intro j hj ho
        by_cases hop : opn W H bl (x + j * (1 - d)) (y + j * d) = true
        · obtain ⟨m, hm⟩ := ih (j + 1) (by omega) (fun p hp => by
            by_cases e : p = j
            · rw [e]; exact hop
            · exact ho p (by omega))
          refine ⟨m + 1, ?_⟩
          show wp_G_addSlotFrom_36 post _ _ _ _ _ _ _ _
          unfold wp_G_addSlotFrom_36
          refine pk_le 6 j (fun q => absurd q (by omega)) (fun _ => ?_)
          rw [pk_mul, pk_mul, nI_add, nI_add]
          obtain ⟨b1, b2⟩ := rlen_bd (bl := bl) hd w2 w4 (j := j) (by omega) hx hy
          refine sp_G_isOpenN hG b1 b2 (fun _ => ⟨fun c => absurd c (by decide), fun _ => ?_⟩) (fun q => ?_)
          · rw [nI_1]
            exact hm
          · rw [hop] at q
            cases q
        · refine ⟨1, ?_⟩
          show wp_G_addSlotFrom_36 post _ _ _ _ _ _ _ _
          unfold wp_G_addSlotFrom_36
          refine pk_le 6 j (fun q => absurd q (by omega)) (fun _ => ?_)
          rw [pk_mul, pk_mul, nI_add, nI_add]
          obtain ⟨b1, b2⟩ := rlen_bd (bl := bl) hd w2 w4 (j := j) (by omega) hx hy
          refine sp_G_isOpenN hG b1 b2 (fun q => absurd q hop) (fun q => ⟨fun _ => ?_, fun c => absurd rfl c⟩)
          exact sp_G_add70 hG hn hd hx hy (rlen_eq (by omega) ho (Or.inr q)) hp h24 h1 h0
  unfold wp_G_addSlotFrom
  refine pk_eq d 0 (fun e => ?_) (fun e => ?_)
  · subst e
    exact key
  · have e1 : d = 1 := by omega
    subst e1
    exact key
