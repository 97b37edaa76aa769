def hasM (W : Nat) (P : List (Nat × Nat × Nat)) (f6 f7 f8 f9 : Nat → Int32) : Prop := ∀ (k : Nat) (e : Nat × Nat × Nat), P[k]? = some e → f6 k = nI e.1 ∧ f7 k = nI e.2.1 ∧ f8 k = nI (if e.2.2 = 0 then 1 else W) ∧ f9 k = -1
def stM (u : zz_St) (n r : Nat) (f6 f7 f8 f9 : Nat → Int32) : zz_St := ss_a (ss_a (ss_a (ss_a (ss_i (ss_i u 5 (nI n)) 6 (nI r)) 6 f6) 7 f7) 8 f8) 9 f9
theorem hasM_add {W : Nat} {P : List (Nat × Nat × Nat)} {f6 f7 f8 f9 : Nat → Int32} {e : Nat × Nat × Nat} (h : hasM W P f6 f7 f8 f9) : hasM W (P ++ [e]) (upd f6 P.length (nI e.1)) (upd f7 P.length (nI e.2.1)) (upd f8 P.length (nI (if e.2.2 = 0 then 1 else W))) (upd f9 P.length (-1)) := by
  intro k e' he
  by_cases hk : k < P.length
  · rw [List.getElem?_append_left hk] at he
    have := h k e' he
    simp only [upd, if_neg (show ¬ k = P.length by omega)]
    exact this
  · rw [List.getElem?_append_right (by omega)] at he
    have hz : k - P.length < 1 := (List.getElem?_eq_some_iff.mp he).1
    have e0 : k = P.length := by omega
    subst e0
    rw [Nat.sub_self] at he
    cases he
    exact ⟨if_pos rfl, if_pos rfl, if_pos rfl, if_pos rfl⟩
def invM (W H : Nat) (bl : Nat → Nat) (u : zz_St) (r d c : Nat) (z : zz_St) : Prop := ∃ f6 f7 f8 f9 : Nat → Int32, z = stM u (doneS W H bl d c).length r f6 f7 f8 f9 ∧ hasM W (doneS W H bl d c) f6 f7 f8 f9
theorem invM_G {W H : Nat} {bl : Nat → Nat} {u z : zz_St} {r d c : Nat} (hG : rG W H bl (sg_i u 1) (sg_i u 2) (sg_a u 0)) (h : invM W H bl u r d c z) : rG W H bl (sg_i z 1) (sg_i z 2) (sg_a z 0) ∧ sg_i z 5 = nI (doneS W H bl d c).length := by
  obtain ⟨f6, f7, f8, f9, rfl, -⟩ := h
  unfold stM
  simp (decide := true) only [sx_il, sx_ia, sx_ib, sy_i, sz_i, sx_li, sx_la, sx_lb, sy_l, sz_l, sx_ai, sx_al, sx_ab, sy_a, sz_a, sx_bi, sx_bl, sx_ba, sy_b, sz_b]
  exact ⟨hG, trivial⟩
theorem sp_M_fs58 {W H : Nat} {bl : Nat → Nat} {u : zz_St} {post : zz_St → Prop} {kn7 : Int32 → zz_St → Prop} {kn22 : Int32 → Int32 → zz_St → Prop} {d c t : Nat} {z : zz_St} (hG : rG W H bl (sg_i u 1) (sg_i u 2) (sg_a u 0)) (hd : d < 2) (hc : c < W * H) (hz : invM W H bl u t d c z) (hK : ∀ z, invM W H bl u t d (c + 1) z → kn22 (nI d) (nI (c + 1)) z) : ∃ m, wp_M_findSlots_58_f post kn7 kn22 m (nI d) (nI c) (nI (c % W)) (nI (c / W)) (nI (1 - d)) (nI 0) z := by
  obtain ⟨w1, w2, w3, w4, ew, eh, hb⟩ := id hG
  obtain ⟨gz, nz⟩ := invM_G hG hz
  have hx : c % W < W := Nat.mod_lt _ (by omega)
  have hy : c / W < H := Nat.div_lt_of_lt_mul hc
  have h36 := WH_le w2 w4
  have hsucc := doneS_succ (W := W) (H := H) (bl := bl) (d := d) (c := c) hd
  have h24 := doneS_len (bl := bl) w2 w4 (d := d) (c := c + 1) hd
  suffices ∀ r j, j + r = 7 → (∀ p, p < j → opn W H bl (c % W + p * (1 - d)) (c / W + p * d) = true) → ∃ m, wp_M_findSlots_58_f post kn7 kn22 m (nI d) (nI c) (nI (c % W)) (nI (c / W)) (nI (1 - d)) (nI j) z from this 7 0 rfl (fun p hp => absurd hp (Nat.not_lt_zero p))
  have h6 : ∀ j, 6 ≤ j → opn W H bl (c % W + j * (1 - d)) (c / W + j * d) = false := by
    intro j hj
    cases q : opn W H bl (c % W + j * (1 - d)) (c / W + j * d) with
    | false => rfl
    | true =>
      obtain ⟨o1, o2, -⟩ := opn_iff.mp q
      generalize c % W = x at *
      generalize c / W = y at *
      rcases (show d = 0 ∨ d = 1 by omega) with rfl | rfl <;> omega
  intro r
  induction r with
  | zero =>
    intro j hj ho
    have := ho 6 (by omega)
    rw [h6 6 (Nat.le_refl 6)] at this
    cases this
  | succ r ih =>
    intro j hj ho
    have b1 : c % W + j * (1 - d) < 2 ^ 30 ∧ c / W + j * d < 2 ^ 30 := by
      generalize c % W = x at *
      generalize c / W = y at *
      rcases (show d = 0 ∨ d = 1 by omega) with rfl | rfl <;> omega
    by_cases hop : opn W H bl (c % W + j * (1 - d)) (c / W + j * d) = true
    · obtain ⟨m, hm⟩ := ih (j + 1) (by omega) (fun p hp => by
        by_cases e : p = j
        · rw [e]; exact hop
        · exact ho p (by omega))
      refine ⟨m + 1, ?_⟩
      show wp_M_findSlots_58 post _ _ _ _ _ _ _ _ _ _
      unfold wp_M_findSlots_58
      rw [pk_mul, pk_mul, nI_add, nI_add]
      refine sp_M_isOpenN gz b1.1 b1.2 (fun _ => ⟨fun q => absurd q (by decide), fun _ => ?_⟩) (fun q => ?_)
      · rw [nI_1]
        exact hm
      · rw [hop] at q
        cases q
    · refine ⟨1, ?_⟩
      have hj6 : j ≤ 6 := by omega
      show wp_M_findSlots_58 post _ _ _ _ _ _ _ _ _ _
      unfold wp_M_findSlots_58
      rw [pk_mul, pk_mul, nI_add, nI_add]
      refine sp_M_isOpenN gz b1.1 b1.2 (fun q => absurd q hop) (fun q => ⟨fun _ => ?_, fun q => absurd rfl q⟩)
      have hr : rlen W H bl d 6 (c % W) (c / W) = j := rlen_eq hj6 ho (Or.inr q)
      have no : isSt W H bl d c = false → wp_M_findSlots_171 post kn7 kn22 (nI d) (nI c) z := by
        intro hs
        unfold wp_M_findSlots_171
        rw [nI_1]
        refine hK z ?_
        have : doneS W H bl d (c + 1) = doneS W H bl d c := by
          rw [hsucc, if_neg (by rw [hs]; decide), List.append_nil]
        unfold invM
        rw [this]
        exact hz
      refine pk_lt j 2 (fun q2 => no ?_) (fun q2 => ?_)
      · unfold isSt
        rw [hr]
        simp
        omega
      · refine sp_M_isOpen gz (fun x' y' o e1 e2 => ⟨fun q => absurd q (by decide), fun _ => no ?_⟩) (fun q3 => ⟨fun _ => ?_, fun q => absurd rfl q⟩)
        · have hp : prv W H bl d (c % W) (c / W) = true := (prv_iff w2 w4 hd hx hy).mpr ⟨x', y', o, e1, e2⟩
          unfold isSt
          rw [hp]
          simp
        · have hp : prv W H bl d (c % W) (c / W) = false := by
            cases h : prv W H bl d (c % W) (c / W) with
            | false => rfl
            | true =>
              obtain ⟨x', y', o, e1, e2⟩ := (prv_iff w2 w4 hd hx hy).mp h
              exact (q3 x' y' o e1 e2).elim
          have hs : isSt W H bl d c = true := by
            unfold isSt
            rw [hr, hp]
            simp
            omega
          rw [hsucc, if_pos hs, List.length_append] at h24
          have h24' : (doneS W H bl d c).length < 24 := by
            have : ([mkS W H bl d c] : List (Nat × Nat × Nat)).length = 1 := rfl
            omega
          have hmk : mkS W H bl d c = (c, j, d) := by
            unfold mkS
            rw [hr]
          have fin : ∀ wy : Nat, wy = (if d = 0 then 1 else W) → wp_M_findSlots_150 post kn7 kn22 (nI d) (nI c) (nI wy) (sg_i z 5) (ss_a (ss_a z 6 (upd (sg_a z 6) (sg_i z 5).toNatClampNeg (nI c))) 7 (upd (sg_a z 7) (sg_i z 5).toNatClampNeg (nI j))) := by
            intro wy hwy
            obtain ⟨f6, f7, f8, f9, rfl, hP⟩ := hz
            unfold wp_M_findSlots_150 wp_M_findSlots_171 stM
            simp (decide := true) only [sx_il, sx_ia, sx_ib, sy_i, sz_i, sx_li, sx_la, sx_lb, sy_l, sz_l, sx_ai, sx_al, sx_ab, sy_a, sz_a, sx_bi, sx_bl, sx_ba, sy_b, sz_b]
            rw [pk_cl (doneS W H bl d c).length]
            refine ⟨pk_in (doneS W H bl d c).length 36 (by omega), pk_in (doneS W H bl d c).length 36 (by omega), fun v ev => ?_⟩
            rw [nI_1] at ev
            rw [ev, nI_1]
            refine hK _ ?_
            have hlen : (doneS W H bl d (c + 1)).length = (doneS W H bl d c).length + 1 := by
              rw [hsucc, if_pos hs, List.length_append]
              rfl
            refine ⟨upd f6 (doneS W H bl d c).length (nI c), upd f7 (doneS W H bl d c).length (nI j), upd f8 (doneS W H bl d c).length (nI wy), upd f9 (doneS W H bl d c).length (-1), ?_, ?_⟩
            · rw [hlen]
              unfold stM
              simp (decide := true) only [sx_il, sx_ia, sx_ib, sy_i, sz_i, sx_li, sx_la, sx_lb, sy_l, sz_l, sx_ai, sx_al, sx_ab, sy_a, sz_a, sx_bi, sx_bl, sx_ba, sy_b, sz_b, so_i, so_l, so_a, so_b, sci_0_1, sci_0_2, sci_1_2, sci_0_3, sci_1_3, sci_2_3, sci_0_4, sci_1_4, sci_2_4, sci_3_4, sci_0_5, sci_1_5, sci_2_5, sci_3_5, sci_4_5, sci_0_6, sci_1_6, sci_2_6, sci_3_6, sci_4_6, sci_5_6, sci_0_7, sci_1_7, sci_2_7, sci_3_7, sci_4_7, sci_5_7, sci_6_7, sci_0_8, sci_1_8, sci_2_8, sci_3_8, sci_4_8, sci_5_8, sci_6_8, sci_7_8, sci_0_9, sci_1_9, sci_2_9, sci_3_9, sci_4_9, sci_5_9, sci_6_9, sci_7_9, sci_8_9, sci_0_10, sci_1_10, sci_2_10, sci_3_10, sci_4_10, sci_5_10, sci_6_10, sci_7_10, sci_8_10, sci_9_10, sci_0_11, sci_1_11, sci_2_11, sci_3_11, sci_4_11, sci_5_11, sci_6_11, sci_7_11, sci_8_11, sci_9_11, sci_10_11, sci_0_12, sci_1_12, sci_2_12, sci_3_12, sci_4_12, sci_5_12, sci_6_12, sci_7_12, sci_8_12, sci_9_12, sci_10_12, sci_11_12, scl_0_1, sca_0_1, sca_0_2, sca_1_2, sca_0_3, sca_1_3, sca_2_3, sca_0_4, sca_1_4, sca_2_4, sca_3_4, sca_0_5, sca_1_5, sca_2_5, sca_3_5, sca_4_5, sca_0_6, sca_1_6, sca_2_6, sca_3_6, sca_4_6, sca_5_6, sca_0_7, sca_1_7, sca_2_7, sca_3_7, sca_4_7, sca_5_7, sca_6_7, sca_0_8, sca_1_8, sca_2_8, sca_3_8, sca_4_8, sca_5_8, sca_6_8, sca_7_8, sca_0_9, sca_1_9, sca_2_9, sca_3_9, sca_4_9, sca_5_9, sca_6_9, sca_7_9, sca_8_9, sca_0_10, sca_1_10, sca_2_10, sca_3_10, sca_4_10, sca_5_10, sca_6_10, sca_7_10, sca_8_10, sca_9_10, sca_0_11, sca_1_11, sca_2_11, sca_3_11, sca_4_11, sca_5_11, sca_6_11, sca_7_11, sca_8_11, sca_9_11, sca_10_11, sca_0_12, sca_1_12, sca_2_12, sca_3_12, sca_4_12, sca_5_12, sca_6_12, sca_7_12, sca_8_12, sca_9_12, sca_10_12, sca_11_12, sca_0_13, sca_1_13, sca_2_13, sca_3_13, sca_4_13, sca_5_13, sca_6_13, sca_7_13, sca_8_13, sca_9_13, sca_10_13, sca_11_13, sca_12_13, sca_0_14, sca_1_14, sca_2_14, sca_3_14, sca_4_14, sca_5_14, sca_6_14, sca_7_14, sca_8_14, sca_9_14, sca_10_14, sca_11_14, sca_12_14, sca_13_14, sca_0_15, sca_1_15, sca_2_15, sca_3_15, sca_4_15, sca_5_15, sca_6_15, sca_7_15, sca_8_15, sca_9_15, sca_10_15, sca_11_15, sca_12_15, sca_13_15, sca_14_15, sca_0_16, sca_1_16, sca_2_16, sca_3_16, sca_4_16, sca_5_16, sca_6_16, sca_7_16, sca_8_16, sca_9_16, sca_10_16, sca_11_16, sca_12_16, sca_13_16, sca_14_16, sca_15_16, sca_0_17, sca_1_17, sca_2_17, sca_3_17, sca_4_17, sca_5_17, sca_6_17, sca_7_17, sca_8_17, sca_9_17, sca_10_17, sca_11_17, sca_12_17, sca_13_17, sca_14_17, sca_15_17, sca_16_17, scb_0_1, scb_0_2, scb_1_2, scb_0_3, scb_1_3, scb_2_3, scb_0_4, scb_1_4, scb_2_4, scb_3_4, scb_0_5, scb_1_5, scb_2_5, scb_3_5, scb_4_5, sd_li, sd_ai, sd_bi, sd_al, sd_bl, sd_ba]
            · have := hasM_add (e := mkS W H bl d c) hP
              rw [hsucc, if_pos hs, hwy]
              rw [hmk] at this ⊢
              exact this
          rw [nz]
          refine ⟨pk_in (doneS W H bl d c).length 36 (by omega), pk_in (doneS W H bl d c).length 36 (by omega), ?_⟩
          rw [nz] at fin
          rw [gz.2.2.2.2.1]
          exact pk_eq d 0 (fun e => fin 1 (by rw [if_pos e])) (fun e => fin W (by rw [if_neg e]))
theorem sp_M_fs22 {W H : Nat} {bl : Nat → Nat} {u : zz_St} {post : zz_St → Prop} {kn7 : Int32 → zz_St → Prop} {d t : Nat} (hG : rG W H bl (sg_i u 1) (sg_i u 2) (sg_a u 0)) (hd : d < 2) (hK : ∀ z, invM W H bl u t d (W * H) z → kn7 (nI (d + 1)) z) : ∀ r c z, c + r = W * H → invM W H bl u t d c z → wp_M_findSlots_22_f post kn7 (r + 1) (nI d) (nI c) z := by
  obtain ⟨w1, w2, w3, w4, ew, eh, hb⟩ := id hG
  have h36 := WH_le w2 w4
  intro r
  induction r with
  | zero =>
    intro c z hc hz
    obtain ⟨gz, nz⟩ := invM_G hG hz
    show wp_M_findSlots_22 post _ _ _ _ _
    unfold wp_M_findSlots_22
    rw [gz.2.2.2.2.1, gz.2.2.2.2.2.1, pk_mul]
    refine pk_le (W * H) c (fun _ => ?_) (fun q => absurd q (by omega))
    rw [nI_1]
    have e : c = W * H := by omega
    rw [e] at hz
    exact hK z hz
  | succ r ih =>
    intro c z hc hz
    obtain ⟨gz, nz⟩ := invM_G hG hz
    show wp_M_findSlots_22 post _ _ _ _ _
    unfold wp_M_findSlots_22
    rw [gz.2.2.2.2.1, gz.2.2.2.2.2.1, pk_mul]
    refine pk_le (W * H) c (fun q => absurd q (by omega)) (fun _ => ⟨nI_ne0 (by omega) (by omega), fun v4 e4 => ⟨nI_ne0 (by omega) (by omega), fun v5 e5 v6 e6 => ?_⟩⟩)
    rw [pk_rem (by omega) (by omega) (by omega)] at e4
    rw [pk_div (by omega) (by omega) (by omega)] at e5
    rw [show (1 : Int32) = nI 1 from rfl, pk_sub (by omega)] at e6
    subst e4; subst e5; subst e6
    exact sp_M_fs58 hG hd (by omega) hz (fun z' hz' => ih (c + 1) z' (by omega) hz')
theorem sp_M_findSlots {W H : Nat} {bl : Nat → Nat} {u : zz_St} {post : zz_St → Prop} (hG : rG W H bl (sg_i u 1) (sg_i u 2) (sg_a u 0))
    (h : ∀ f6 f7 f8 f9 : Nat → Int32, hasM W (slS W H bl) f6 f7 f8 f9 → post (stM u (slS W H bl).length (preS W H bl 0 (W * H)).length f6 f7 f8 f9)) : wp_M_findSlots u post := by
  obtain ⟨w1, w2, w3, w4, ew, eh, hb⟩ := id hG
  refine ⟨3, ?_⟩
  show wp_M_findSlots_7 post _ _ _
  unfold wp_M_findSlots_7
  refine pk_le 2 0 (fun q => absurd q (by omega)) (fun _ v ev => ⟨W * H + 1, ?_⟩)
  have i0 : invM W H bl u 0 0 0 (ss_i (ss_i u 5 0) 6 v) := by
    refine ⟨sg_a u 6, sg_a u 7, sg_a u 8, sg_a u 9, ?_, fun k e he => by simp [doneS, preS] at he⟩
    have e1 : ss_a (ss_a (ss_a (ss_a (ss_i (ss_i u 5 0) 6 v) 6 (sg_a u 6)) 7 (sg_a u 7)) 8 (sg_a u 8)) 9 (sg_a u 9) = ss_i (ss_i u 5 0) 6 v := by
      generalize hz : ss_i (ss_i u 5 0) 6 v = z
      have e6 : sg_a u 6 = sg_a z 6 := by rw [← hz]; rfl
      have e7 : sg_a u 7 = sg_a z 7 := by rw [← hz]; rfl
      have e8 : sg_a u 8 = sg_a z 8 := by rw [← hz]; rfl
      have e9 : sg_a u 9 = sg_a z 9 := by rw [← hz]; rfl
      rw [e6, e7, e8, e9]
      simp only [ss_a_id]
    rw [← e1]
    simp (decide := true) only [sx_il, sx_ia, sx_ib, sy_i, sz_i, sx_li, sx_la, sx_lb, sy_l, sz_l, sx_ai, sx_al, sx_ab, sy_a, sz_a, sx_bi, sx_bl, sx_ba, sy_b, sz_b] at ev
    rw [ev]
    rfl
  refine sp_M_fs22 (t := 0) (d := 0) hG (by decide) (fun z hz => ?_) (W * H) 0 _ (Nat.zero_add _) i0
  show wp_M_findSlots_7 post _ _ _
  unfold wp_M_findSlots_7
  refine pk_le 2 1 (fun q => absurd q (by omega)) (fun _ v ev => ⟨W * H + 1, ?_⟩)
  have i1 : invM W H bl u (preS W H bl 0 (W * H)).length 1 0 (ss_i z 6 v) := by
    obtain ⟨f6, f7, f8, f9, rfl, hP⟩ := hz
    refine ⟨f6, f7, f8, f9, ?_, ?_⟩
    · unfold stM at ev ⊢
      simp (decide := true) only [sx_il, sx_ia, sx_ib, sy_i, sz_i, sx_li, sx_la, sx_lb, sy_l, sz_l, sx_ai, sx_al, sx_ab, sy_a, sz_a, sx_bi, sx_bl, sx_ba, sy_b, sz_b] at ev
      rw [ev, doneS_10]
      simp (decide := true) only [sx_il, sx_ia, sx_ib, sy_i, sz_i, sx_li, sx_la, sx_lb, sy_l, sz_l, sx_ai, sx_al, sx_ab, sy_a, sz_a, sx_bi, sx_bl, sx_ba, sy_b, sz_b, so_i, so_l, so_a, so_b, sci_0_1, sci_0_2, sci_1_2, sci_0_3, sci_1_3, sci_2_3, sci_0_4, sci_1_4, sci_2_4, sci_3_4, sci_0_5, sci_1_5, sci_2_5, sci_3_5, sci_4_5, sci_0_6, sci_1_6, sci_2_6, sci_3_6, sci_4_6, sci_5_6, sci_0_7, sci_1_7, sci_2_7, sci_3_7, sci_4_7, sci_5_7, sci_6_7, sci_0_8, sci_1_8, sci_2_8, sci_3_8, sci_4_8, sci_5_8, sci_6_8, sci_7_8, sci_0_9, sci_1_9, sci_2_9, sci_3_9, sci_4_9, sci_5_9, sci_6_9, sci_7_9, sci_8_9, sci_0_10, sci_1_10, sci_2_10, sci_3_10, sci_4_10, sci_5_10, sci_6_10, sci_7_10, sci_8_10, sci_9_10, sci_0_11, sci_1_11, sci_2_11, sci_3_11, sci_4_11, sci_5_11, sci_6_11, sci_7_11, sci_8_11, sci_9_11, sci_10_11, sci_0_12, sci_1_12, sci_2_12, sci_3_12, sci_4_12, sci_5_12, sci_6_12, sci_7_12, sci_8_12, sci_9_12, sci_10_12, sci_11_12, scl_0_1, sca_0_1, sca_0_2, sca_1_2, sca_0_3, sca_1_3, sca_2_3, sca_0_4, sca_1_4, sca_2_4, sca_3_4, sca_0_5, sca_1_5, sca_2_5, sca_3_5, sca_4_5, sca_0_6, sca_1_6, sca_2_6, sca_3_6, sca_4_6, sca_5_6, sca_0_7, sca_1_7, sca_2_7, sca_3_7, sca_4_7, sca_5_7, sca_6_7, sca_0_8, sca_1_8, sca_2_8, sca_3_8, sca_4_8, sca_5_8, sca_6_8, sca_7_8, sca_0_9, sca_1_9, sca_2_9, sca_3_9, sca_4_9, sca_5_9, sca_6_9, sca_7_9, sca_8_9, sca_0_10, sca_1_10, sca_2_10, sca_3_10, sca_4_10, sca_5_10, sca_6_10, sca_7_10, sca_8_10, sca_9_10, sca_0_11, sca_1_11, sca_2_11, sca_3_11, sca_4_11, sca_5_11, sca_6_11, sca_7_11, sca_8_11, sca_9_11, sca_10_11, sca_0_12, sca_1_12, sca_2_12, sca_3_12, sca_4_12, sca_5_12, sca_6_12, sca_7_12, sca_8_12, sca_9_12, sca_10_12, sca_11_12, sca_0_13, sca_1_13, sca_2_13, sca_3_13, sca_4_13, sca_5_13, sca_6_13, sca_7_13, sca_8_13, sca_9_13, sca_10_13, sca_11_13, sca_12_13, sca_0_14, sca_1_14, sca_2_14, sca_3_14, sca_4_14, sca_5_14, sca_6_14, sca_7_14, sca_8_14, sca_9_14, sca_10_14, sca_11_14, sca_12_14, sca_13_14, sca_0_15, sca_1_15, sca_2_15, sca_3_15, sca_4_15, sca_5_15, sca_6_15, sca_7_15, sca_8_15, sca_9_15, sca_10_15, sca_11_15, sca_12_15, sca_13_15, sca_14_15, sca_0_16, sca_1_16, sca_2_16, sca_3_16, sca_4_16, sca_5_16, sca_6_16, sca_7_16, sca_8_16, sca_9_16, sca_10_16, sca_11_16, sca_12_16, sca_13_16, sca_14_16, sca_15_16, sca_0_17, sca_1_17, sca_2_17, sca_3_17, sca_4_17, sca_5_17, sca_6_17, sca_7_17, sca_8_17, sca_9_17, sca_10_17, sca_11_17, sca_12_17, sca_13_17, sca_14_17, sca_15_17, sca_16_17, scb_0_1, scb_0_2, scb_1_2, scb_0_3, scb_1_3, scb_2_3, scb_0_4, scb_1_4, scb_2_4, scb_3_4, scb_0_5, scb_1_5, scb_2_5, scb_3_5, scb_4_5, sd_li, sd_ai, sd_bi, sd_al, sd_bl, sd_ba]
      rfl
    · rw [doneS_10]
      exact hP
  refine sp_M_fs22 (t := (preS W H bl 0 (W * H)).length) (d := 1) hG (by decide) (fun z hz => ?_) (W * H) 0 _ (Nat.zero_add _) i1
  show wp_M_findSlots_7 post _ _ _
  unfold wp_M_findSlots_7
  refine pk_le 2 2 (fun _ => ?_) (fun q => absurd q (by omega))
  unfold invM at hz
  rw [doneS_all] at hz
  obtain ⟨f6, f7, f8, f9, rfl, g1⟩ := hz
  exact h f6 f7 f8 f9 g1
