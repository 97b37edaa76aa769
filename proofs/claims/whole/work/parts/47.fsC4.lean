def invS (W H : Nat) (bl : Nat → Nat) (u : zz_St) (d c : Nat) (z : zz_St) : Prop := ∃ f2 f3 f4 f6 f7 : Nat → Int32, z = stS u (doneS W H bl d c).length f2 f3 f4 f6 f7 ∧ hasP (doneS W H bl d c) f2 f3 f4 ∧ thr W (doneS W H bl d c) f6 f7
theorem invS_G {W H : Nat} {bl : Nat → Nat} {u z : zz_St} {d c : Nat} (hG : rG W H bl (sg_i u 0) (sg_i u 1) (sg_a u 0)) (h : invS W H bl u d c z) : rG W H bl (sg_i z 0) (sg_i z 1) (sg_a z 0) ∧ sg_i z 3 = nI (doneS W H bl d c).length := by
  obtain ⟨f2, f3, f4, f6, f7, rfl, -⟩ := h
  unfold stS
  simp (decide := true) only [sx_il, sx_ia, sx_ib, sy_i, sz_i, sx_li, sx_la, sx_lb, sy_l, sz_l, sx_ai, sx_al, sx_ab, sy_a, sz_a, sx_bi, sx_bl, sx_ba, sy_b, sz_b]
  exact ⟨hG, trivial⟩
theorem sp_G_fs40 {W H : Nat} {bl : Nat → Nat} {u : zz_St} {post : zz_St → Prop} {kn23 : Int32 → zz_St → Prop} {kn30 : Int32 → Int32 → zz_St → Prop} {d y : Nat} (hG : rG W H bl (sg_i u 0) (sg_i u 1) (sg_a u 0)) (hd : d < 2) (hy : y < H) (hK : ∀ z, invS W H bl u d (W * (y + 1)) z → kn30 (nI d) (nI (y + 1)) z) : ∀ r x z, x + r = W → invS W H bl u d (x + W * y) z → wp_G_findSlots_40_f post kn23 kn30 (r + 1) (nI d) (nI y) (nI x) z := by
  obtain ⟨w1, w2, w3, w4, ew, eh, hb⟩ := id hG
  intro r
  induction r with
  | zero =>
    intro x z hx hz
    obtain ⟨gz, nz⟩ := invS_G hG hz
    show wp_G_findSlots_40 post _ _ _ _ _ _ _
    unfold wp_G_findSlots_40
    rw [gz.2.2.2.2.1]
    have e : x = W := by omega
    subst e
    refine pk_le x x (fun _ => ?_) (fun q => absurd q (by omega))
    rw [nI_1]
    refine hK z ?_
    rw [Nat.mul_succ, Nat.add_comm]
    exact hz
  | succ r ih =>
    intro x z hx hz
    obtain ⟨gz, nz⟩ := invS_G hG hz
    show wp_G_findSlots_40 post _ _ _ _ _ _ _
    unfold wp_G_findSlots_40
    rw [gz.2.2.2.2.1]
    refine pk_le W x (fun q => absurd q (by omega)) (fun _ => ?_)
    have hsucc := doneS_succ (W := W) (H := H) (bl := bl) (d := d) (c := x + W * y) hd
    refine sp_G_addSlotFrom gz nz hd (by omega) hy (fun hs => ?_) (fun hs => ?_) (fun hs => ?_)
    · have h24 := doneS_len (bl := bl) w2 w4 (d := d) (c := x + W * y + 1) hd
      rw [hsucc, if_pos hs, List.length_append] at h24
      have : ([mkS W H bl d (x + W * y)] : List (Nat × Nat × Nat)).length = 1 := rfl
      omega
    · rw [nI_1]
      refine ih (x + 1) _ (by omega) ?_
      rw [show x + 1 + W * y = x + W * y + 1 by omega]
      obtain ⟨f2, f3, f4, f6, f7, rfl, hP, hT⟩ := hz
      have hlen : (doneS W H bl d (x + W * y)).length + 1 = (doneS W H bl d (x + W * y + 1)).length := by
        rw [hsucc, if_pos hs, List.length_append]
        rfl
      refine ⟨_, _, _, _, _, (addS_stS W u _ _ f2 f3 f4 f6 f7 _).trans (congrArg (fun k => stS u k _ _ _ _ _) hlen), ?_, ?_⟩
      · rw [hsucc, if_pos hs]
        exact hasP_add hP
      · rw [hsucc, if_pos hs]
        exact thr_add w1 w2 w4 hd hs doneS_from (fun c' hc' => doneS_new hd hc') hT
    · rw [nI_1]
      refine ih (x + 1) _ (by omega) ?_
      rw [show x + 1 + W * y = x + W * y + 1 by omega]
      have : doneS W H bl d (x + W * y + 1) = doneS W H bl d (x + W * y) := by
        rw [hsucc, if_neg (by rw [hs]; decide), List.append_nil]
      unfold invS
      rw [this]
      exact hz
theorem sp_G_fs30 {W H : Nat} {bl : Nat → Nat} {u : zz_St} {post : zz_St → Prop} {kn23 : Int32 → zz_St → Prop} {d : Nat} (hG : rG W H bl (sg_i u 0) (sg_i u 1) (sg_a u 0)) (hd : d < 2) (hK : ∀ z, invS W H bl u d (W * H) z → kn23 (nI (d + 1)) z) : ∀ r y z, y + r = H → invS W H bl u d (W * y) z → wp_G_findSlots_30_f post kn23 (r + 1) (nI d) (nI y) z := by
  obtain ⟨w1, w2, w3, w4, ew, eh, hb⟩ := id hG
  intro r
  induction r with
  | zero =>
    intro y z hy hz
    obtain ⟨gz, nz⟩ := invS_G hG hz
    show wp_G_findSlots_30 post _ _ _ _ _
    unfold wp_G_findSlots_30
    rw [gz.2.2.2.2.2.1]
    have e : y = H := by omega
    subst e
    refine pk_le y y (fun _ => ?_) (fun q => absurd q (by omega))
    rw [nI_1]
    exact hK z hz
  | succ r ih =>
    intro y z hy hz
    obtain ⟨gz, nz⟩ := invS_G hG hz
    show wp_G_findSlots_30 post _ _ _ _ _
    unfold wp_G_findSlots_30
    rw [gz.2.2.2.2.2.1]
    refine pk_le H y (fun q => absurd q (by omega)) (fun _ => ⟨W + 1, ?_⟩)
    exact sp_G_fs40 hG hd (by omega) (fun z' hz' => ih (y + 1) z' (by omega) hz') W 0 z (Nat.zero_add W) (by rw [Nat.zero_add]; exact hz)
theorem doneS_10 {W H : Nat} {bl : Nat → Nat} : doneS W H bl 1 0 = doneS W H bl 0 (W * H) := by
  unfold doneS
  rw [if_neg (by decide), if_pos rfl]
  show preS W H bl 0 (W * H) ++ [] = _
  rw [List.append_nil]
theorem doneS_all {W H : Nat} {bl : Nat → Nat} : doneS W H bl 1 (W * H) = slS W H bl := by
  unfold doneS
  rw [if_neg (by decide)]
  rfl
theorem sp_G_findSlots {W H : Nat} {bl : Nat → Nat} {u : zz_St} {post : zz_St → Prop} (hG : rG W H bl (sg_i u 0) (sg_i u 1) (sg_a u 0))
    (h : ∀ f2 f3 f4 f6 f7 : Nat → Int32, hasP (slS W H bl) f2 f3 f4 → thr W (slS W H bl) f6 f7 → post (stS (ss_a u 5 (flI (-1) 24 (sg_a u 5))) (slS W H bl).length f2 f3 f4 f6 f7)) : wp_G_findSlots u post := by
  refine sp_JA_fillI_GthemeOf (sp_JA_fillI_GslotThrough ⟨3, ?_⟩)
  have hGb : rG W H bl (sg_i (ss_a u 5 (flI (-1) 24 (sg_a u 5))) 0) (sg_i (ss_a u 5 (flI (-1) 24 (sg_a u 5))) 1) (sg_a (ss_a u 5 (flI (-1) 24 (sg_a u 5))) 0) := by
    simp (decide := true) only [sx_il, sx_ia, sx_ib, sy_i, sz_i, sx_li, sx_la, sx_lb, sy_l, sz_l, sx_ai, sx_al, sx_ab, sy_a, sz_a, sx_bi, sx_bl, sx_ba, sy_b, sz_b]
    exact hG
  have e0 : ss_a (ss_a (ss_i u 3 0) 5 (flI (-1) 24 (sg_a (ss_i u 3 0) 5))) 6 (flI (-1) 72 (sg_a (ss_a (ss_i u 3 0) 5 (flI (-1) 24 (sg_a (ss_i u 3 0) 5))) 6)) = stS (ss_a u 5 (flI (-1) 24 (sg_a u 5))) 0 (sg_a u 2) (sg_a u 3) (sg_a u 4) (flI (-1) 72 (sg_a u 6)) (sg_a u 7) := by
    generalize hz : ss_a (ss_a (ss_i u 3 0) 5 (flI (-1) 24 (sg_a (ss_i u 3 0) 5))) 6 (flI (-1) 72 (sg_a (ss_a (ss_i u 3 0) 5 (flI (-1) 24 (sg_a (ss_i u 3 0) 5))) 6)) = z
    have e1 : ss_a (ss_a (ss_a (ss_a z 2 (sg_a z 2)) 3 (sg_a z 3)) 4 (sg_a z 4)) 7 (sg_a z 7) = z := by
      simp only [ss_a_id]
    rw [← e1, ← hz]
    unfold stS
    simp (decide := true) only [sx_il, sx_ia, sx_ib, sy_i, sz_i, sx_li, sx_la, sx_lb, sy_l, sz_l, sx_ai, sx_al, sx_ab, sy_a, sz_a, sx_bi, sx_bl, sx_ba, sy_b, sz_b, so_i, so_l, so_a, so_b, sci_0_1, sci_0_2, sci_1_2, sci_0_3, sci_1_3, sci_2_3, sci_0_4, sci_1_4, sci_2_4, sci_3_4, sci_0_5, sci_1_5, sci_2_5, sci_3_5, sci_4_5, sci_0_6, sci_1_6, sci_2_6, sci_3_6, sci_4_6, sci_5_6, sci_0_7, sci_1_7, sci_2_7, sci_3_7, sci_4_7, sci_5_7, sci_6_7, sci_0_8, sci_1_8, sci_2_8, sci_3_8, sci_4_8, sci_5_8, sci_6_8, sci_7_8, sci_0_9, sci_1_9, sci_2_9, sci_3_9, sci_4_9, sci_5_9, sci_6_9, sci_7_9, sci_8_9, sci_0_10, sci_1_10, sci_2_10, sci_3_10, sci_4_10, sci_5_10, sci_6_10, sci_7_10, sci_8_10, sci_9_10, sci_0_11, sci_1_11, sci_2_11, sci_3_11, sci_4_11, sci_5_11, sci_6_11, sci_7_11, sci_8_11, sci_9_11, sci_10_11, sci_0_12, sci_1_12, sci_2_12, sci_3_12, sci_4_12, sci_5_12, sci_6_12, sci_7_12, sci_8_12, sci_9_12, sci_10_12, sci_11_12, scl_0_1, sca_0_1, sca_0_2, sca_1_2, sca_0_3, sca_1_3, sca_2_3, sca_0_4, sca_1_4, sca_2_4, sca_3_4, sca_0_5, sca_1_5, sca_2_5, sca_3_5, sca_4_5, sca_0_6, sca_1_6, sca_2_6, sca_3_6, sca_4_6, sca_5_6, sca_0_7, sca_1_7, sca_2_7, sca_3_7, sca_4_7, sca_5_7, sca_6_7, sca_0_8, sca_1_8, sca_2_8, sca_3_8, sca_4_8, sca_5_8, sca_6_8, sca_7_8, sca_0_9, sca_1_9, sca_2_9, sca_3_9, sca_4_9, sca_5_9, sca_6_9, sca_7_9, sca_8_9, sca_0_10, sca_1_10, sca_2_10, sca_3_10, sca_4_10, sca_5_10, sca_6_10, sca_7_10, sca_8_10, sca_9_10, sca_0_11, sca_1_11, sca_2_11, sca_3_11, sca_4_11, sca_5_11, sca_6_11, sca_7_11, sca_8_11, sca_9_11, sca_10_11, sca_0_12, sca_1_12, sca_2_12, sca_3_12, sca_4_12, sca_5_12, sca_6_12, sca_7_12, sca_8_12, sca_9_12, sca_10_12, sca_11_12, sca_0_13, sca_1_13, sca_2_13, sca_3_13, sca_4_13, sca_5_13, sca_6_13, sca_7_13, sca_8_13, sca_9_13, sca_10_13, sca_11_13, sca_12_13, sca_0_14, sca_1_14, sca_2_14, sca_3_14, sca_4_14, sca_5_14, sca_6_14, sca_7_14, sca_8_14, sca_9_14, sca_10_14, sca_11_14, sca_12_14, sca_13_14, sca_0_15, sca_1_15, sca_2_15, sca_3_15, sca_4_15, sca_5_15, sca_6_15, sca_7_15, sca_8_15, sca_9_15, sca_10_15, sca_11_15, sca_12_15, sca_13_15, sca_14_15, sca_0_16, sca_1_16, sca_2_16, sca_3_16, sca_4_16, sca_5_16, sca_6_16, sca_7_16, sca_8_16, sca_9_16, sca_10_16, sca_11_16, sca_12_16, sca_13_16, sca_14_16, sca_15_16, sca_0_17, sca_1_17, sca_2_17, sca_3_17, sca_4_17, sca_5_17, sca_6_17, sca_7_17, sca_8_17, sca_9_17, sca_10_17, sca_11_17, sca_12_17, sca_13_17, sca_14_17, sca_15_17, sca_16_17, scb_0_1, scb_0_2, scb_1_2, scb_0_3, scb_1_3, scb_2_3, scb_0_4, scb_1_4, scb_2_4, scb_3_4, scb_0_5, scb_1_5, scb_2_5, scb_3_5, scb_4_5, sd_li, sd_ai, sd_bi, sd_al, sd_bl, sd_ba]
    rfl
  rw [e0]
  have i0 : invS W H bl (ss_a u 5 (flI (-1) 24 (sg_a u 5))) 0 (W * 0) (stS (ss_a u 5 (flI (-1) 24 (sg_a u 5))) 0 (sg_a u 2) (sg_a u 3) (sg_a u 4) (flI (-1) 72 (sg_a u 6)) (sg_a u 7)) := by
    have hnil : doneS W H bl 0 (W * 0) = [] := rfl
    refine ⟨_, _, _, _, _, rfl, ?_, ?_⟩
    · rw [hnil]
      intro k e he
      simp at he
    · rw [hnil]
      refine ⟨fun k e p he => by simp at he, fun i hi => Or.inl (flI_in hi)⟩
  show wp_G_findSlots_23 post _ _ _
  unfold wp_G_findSlots_23
  refine pk_lt 1 0 (fun q => absurd q (by omega)) (fun _ => ⟨H + 1, ?_⟩)
  refine sp_G_fs30 (d := 0) hGb (by decide) (fun z hz => ?_) H 0 _ (Nat.zero_add H) i0
  show wp_G_findSlots_23 post _ _ _
  unfold wp_G_findSlots_23
  refine pk_lt 1 1 (fun q => absurd q (by omega)) (fun _ => ⟨H + 1, ?_⟩)
  refine sp_G_fs30 (d := 1) hGb (by decide) (fun z hz => ?_) H 0 _ (Nat.zero_add H) (by unfold invS at hz ⊢; rw [Nat.mul_zero, doneS_10]; exact hz)
  show wp_G_findSlots_23 post _ _ _
  unfold wp_G_findSlots_23
  refine pk_lt 1 2 (fun _ => ?_) (fun q => absurd q (by omega))
  unfold invS at hz
  rw [doneS_all] at hz
  obtain ⟨f2, f3, f4, f6, f7, rfl, g1, g2⟩ := hz
  exact h f2 f3 f4 f6 f7 g1 g2
