theorem thr_at {A : AS} {u : zz_St} (hB : CB A u) {k p : Nat} {e : Nat × Nat × Nat} (hk : A.S[k]? = some e) (hp : p < e.2.1) : sg_a u 6 (e.2.2 * 36 + celp A.W e p) = nI k ∧ sg_a u 7 (e.2.2 * 36 + celp A.W e p) = nI p := hB.1.2.2.2.2.1 k e p hk hp
theorem thr_one {A : AS} {u : zz_St} (hB : CB A u) {k p k' p' : Nat} {e e' : Nat × Nat × Nat} (hk : A.S[k]? = some e) (hk' : A.S[k']? = some e') (hp : p < e.2.1) (hp' : p' < e'.2.1) (hd : e.2.2 = e'.2.2) (hc : celp A.W e p = celp A.W e' p') : k = k' ∧ p = p' := by
  have h24 := S_len hB.1.1
  obtain ⟨a1, a2⟩ := thr_at hB hk hp
  obtain ⟨b1, b2⟩ := thr_at hB hk' hp'
  obtain ⟨c1, -, c6, -⟩ := S_e hB.1.1 hk
  obtain ⟨d1, -, d6, -⟩ := S_e hB.1.1 hk'
  rw [hd, hc] at a1 a2
  exact ⟨nI_inj (by omega) (by omega) (a1.symm.trans b1), nI_inj (by omega) (by omega) (a2.symm.trans b2)⟩
theorem sp_L_letterOf {A : AS} {u : zz_St} {post : Int32 → zz_St → Prop} {w p : Nat} (hB : CB A u) (hw : w < A.n) (hp : p < A.len w) (h : post (nI (A.lt w p)) u) : wp_L_letterOf (nI w) (nI p) u post := by
  obtain ⟨h80, -, hWW⟩ := hB.2.1.1
  obtain ⟨l2, l6, -, -, -, hl⟩ := hWW w hw
  unfold wp_L_letterOf
  rw [show (6 : Int32) = nI 6 from rfl, pk_mul, nI_add, nI_clamp (n := w * 6 + p) (by omega), (hl p hp).1]
  exact ⟨vin (by omega), h⟩
theorem sp_G_across {A : AS} {u : zz_St} {post : Int32 → zz_St → Prop} {d c : Nat} (hB : CB A u) (hd : d < 2) (hc : c < 36)
    (h0 : (∀ (k : Nat) (e : Nat × Nat × Nat) (p : Nat), A.S[k]? = some e → p < e.2.1 → e.2.2 = d → celp A.W e p ≠ c) → post (-1) u)
    (h1 : ∀ (k : Nat) (e : Nat × Nat × Nat) (p : Nat), A.S[k]? = some e → p < e.2.1 → e.2.2 = d → celp A.W e p = c → post (nI k) u) : wp_G_slotAt (nI c) (nI d) u post := by
  unfold wp_G_slotAt
  rw [show (36 : Int32) = nI 36 from rfl, pk_mul, nI_add, nI_clamp (n := d * 36 + c) (by omega)]
  refine ⟨vin (by omega), ?_⟩
  rcases hB.1.2.2.2.2.2 (d * 36 + c) (by omega) with z | ⟨k, e, p, z1, z2, z3⟩
  · rw [z]
    refine h0 (fun k e p a1 a2 a3 a4 => ?_)
    have y := (thr_at hB a1 a2).1
    rw [a3, a4, z] at y
    have h24 := S_len hB.1.1
    have := (S_e hB.1.1 a1).1
    exact nI_nm1 (n := k) (by omega) y.symm
  · have hce := (S_e hB.1.1 z1).2.2.2.2 p z2
    have hde := (S_e hB.1.1 z1).2.2.2.1
    have e1 : e.2.2 = d := by omega
    have e2 : celp A.W e p = c := by omega
    have := (thr_at hB z1 z2).1
    rw [e1, e2] at this
    rw [this]
    exact h1 k e p z1 z2 e1 e2
theorem sp_G_placeAt {A : AS} {u : zz_St} {post : Int32 → zz_St → Prop} {k p : Nat} {e : Nat × Nat × Nat} (hB : CB A u) (hk : A.S[k]? = some e) (hp : p < e.2.1) (h : post (nI p) u) : wp_G_placeAt (nI (celp A.W e p)) (nI e.2.2) u post := by
  obtain ⟨-, -, -, ed, ec⟩ := S_e hB.1.1 hk
  have := ec p hp
  unfold wp_G_placeAt
  rw [show (36 : Int32) = nI 36 from rfl, pk_mul, nI_add, nI_clamp (n := e.2.2 * 36 + celp A.W e p) (by omega), (thr_at hB hk hp).2]
  exact ⟨vin (by omega), h⟩
theorem fitA_set {A : AS} {asg : Nat → Option Nat} {k j w w1 : Nat} {e ej : Nat × Nat × Nat} (hk : A.S[k]? = some e) (hj : A.S[j]? = some ej) (hn : asg k = none) : fitA A (setA asg k w) j w1 ↔ fitA A asg j w1 ∧ crsA A ej w1 e w := by
  constructor
  · rintro ⟨e1, a1, a2, a3⟩
    rw [hj] at a1
    cases a1
    refine ⟨⟨ej, hj, a2, fun k' e' w' b1 b2 => a3 k' e' w' b1 ?_⟩, a3 k e w hk (by unfold setA; rw [if_pos rfl])⟩
    unfold setA
    by_cases ek : k' = k
    · rw [ek, hn] at b2; cases b2
    · rw [if_neg ek]; exact b2
  · rintro ⟨⟨e1, a1, a2, a3⟩, a4⟩
    rw [hj] at a1
    cases a1
    refine ⟨ej, hj, a2, fun k' e' w' b1 b2 => ?_⟩
    unfold setA at b2
    by_cases ek : k' = k
    · rw [if_pos ek] at b2
      cases b2
      rw [ek, hk] at b1
      cases b1
      exact a4
    · rw [if_neg ek] at b2
      exact a3 k' e' w' b1 b2
theorem sp_S_narrowCrossing {A : AS} {u : zz_St} {post : zz_St → Prop} {lv k w : Nat} {e : Nat × Nat × Nat} {asg : Nat → Option Nat} (hB : CB A u) (hR : rowC A asg lv u) (hlv : lv < A.S.length) (hk : A.S[k]? = some e) (hn : asg k = none) (hw : w < A.n) (hwl : A.len w = e.2.1)
    (h : ∀ g4 g5 : Nat → Int64, (∀ i, i < (lv + 1) * 24 → g4 i = sg_b u 4 i ∧ g5 i = sg_b u 5 i) → (∀ j, j < A.S.length → setA asg k w j = none → hasB (ordW A.sc A.n) (fitA A (setA asg k w) j) (g4 ((lv + 1) * 24 + j)) (g5 ((lv + 1) * 24 + j))) → post (ss_b (ss_b u 4 g4) 5 g5)) : wp_S_narrowCrossing (nI lv) (nI k) (nI w) u post := by
  have hG := hB.1.1
  have hns := hB.1.2.2.1
  have h24 := S_len hG
  obtain ⟨kn, e2, e6, ed, ec⟩ := S_e hG hk
  obtain ⟨p2, p3, p4⟩ := hB.1.2.2.2.1 k e hk
  have hlt := rW_lt hB.2.1.1
  have q4 := hB.2.1.2.2.2.2
  unfold wp_S_narrowCrossing
  rw [show (24 : Int32) = nI 24 from rfl, pk_mul, hns, nI_clamp (n := k) (by omega), p4, show (1 : Int32) = nI 1 from rfl, pk_sub (show e.2.2 ≤ 1 by omega)]
  rintro _ rfl
  rw [nI_add]
  rintro _ rfl
  rw [nI_clamp (n := lv * 24) (by omega), nI_clamp (n := lv * 24 + 24) (by omega), nI_clamp (n := A.S.length) (by omega)]
  have z1 : ¬ nI (lv * 24) < 0 := nI_pos (by omega)
  have z2 : ¬ nI (lv * 24 + 24) < 0 := nI_pos (by omega)
  have z3 : ¬ nI A.S.length < 0 := nI_pos (by omega)
  refine ⟨z1, z2, z3, by omega, by omega, z1, z2, z3, by omega, by omega, vin (by omega), ?_⟩
  rintro _ rfl
  refine ⟨e.2.1 + 1, ?_⟩
  suffices ∀ t q g4 g5, q + t = e.2.1 → (∀ i, i < (lv + 1) * 24 → g4 i = sg_b u 4 i ∧ g5 i = sg_b u 5 i) → (∀ j ej, j ≠ k → A.S[j]? = some ej → asg j = none → hasB (ordW A.sc A.n) (fun w1 => fitA A asg j w1 ∧ ∀ p p', p < ej.2.1 → p' < q → celp A.W ej p = celp A.W e p' → A.lt w1 p = A.lt w p') (g4 ((lv + 1) * 24 + j)) (g5 ((lv + 1) * 24 + j))) → wp_S_narrowCrossing_73_f post (t + 1) (nI k) (nI w) (nI (lv * 24 + 24)) (nI (1 - e.2.2)) (nI q) (ss_b (ss_b u 4 g4) 5 g5) from by
    refine this e.2.1 0 _ _ (Nat.zero_add _) (fun i hi => ⟨pk_cpy_out (Or.inl (by omega)), pk_cpy_out (Or.inl (by omega))⟩) (fun j ej hjk hj ha => ?_)
    have jn := (S_e hG hj).1
    rw [pk_cpy_in (by omega) (by omega), pk_cpy_in (by omega) (by omega), show lv * 24 + ((lv + 1) * 24 + j - (lv * 24 + 24)) = lv * 24 + j by omega]
    exact hasB_congr (hR j jn ha) (fun w1 _ => ⟨fun y => ⟨y, fun p p' _ y2 => absurd y2 (Nat.not_lt_zero p')⟩, fun y => y.1⟩)
  intro t
  induction t with
  | zero =>
    intro q g4 g5 hq ho hb
    have eq : q = e.2.1 := by omega
    subst eq
    show wp_S_narrowCrossing_73 post _ _ _ _ _ _ _
    unfold wp_S_narrowCrossing_73
    simp (decide := true) only [sx_il, sx_ia, sx_ib, sy_i, sz_i, sx_li, sx_la, sx_lb, sy_l, sz_l, sx_ai, sx_al, sx_ab, sy_a, sz_a, sx_bi, sx_bl, sx_ba, sy_b, sz_b]
    rw [nI_clamp (n := k) (by omega), p3]
    refine ⟨vin (by omega), pk_le e.2.1 e.2.1 (fun _ => ?_) (fun z => absurd z (by omega))⟩
    refine h g4 g5 ho (fun j hj hja => ?_)
    obtain ⟨ej, hej⟩ := S_get hj
    by_cases ejk : j = k
    · unfold setA at hja
      rw [if_pos ejk] at hja
      cases hja
    · unfold setA at hja
      rw [if_neg ejk] at hja
      exact hasB_congr (hb j ej ejk hej hja) (fun w1 _ => (fitA_set hk hej hn).symm)
  | succ t ih =>
    intro q g4 g5 hq ho hb
    have hq' : q < e.2.1 := by omega
    show wp_S_narrowCrossing_73 post _ _ _ _ _ _ _
    unfold wp_S_narrowCrossing_73
    simp (decide := true) only [sx_il, sx_ia, sx_ib, sy_i, sz_i, sx_li, sx_la, sx_lb, sy_l, sz_l, sx_ai, sx_al, sx_ab, sy_a, sz_a, sx_bi, sx_bl, sx_ba, sy_b, sz_b]
    rw [nI_clamp (n := k) (by omega), p3]
    refine ⟨vin (by omega), pk_le e.2.1 q (fun z => absurd z (by omega)) (fun _ => ?_)⟩
    have hB' : CB A (ss_b (ss_b u 4 g4) 5 g5) := CB_b5 (CB_b4 hB)
    refine sp_G_cellOfE hB' hk ?_
    have hc := ec q hq'
    refine sp_G_across hB' (by omega) hc (fun hno => ⟨fun _ => ?_, fun z => absurd rfl z⟩) (fun k' e' p' a1 a2 a3 a4 => ⟨fun z => absurd z (nI_nm1 (by have := (S_e hG a1).1; omega)), fun _ => ?_⟩)
    · unfold wp_S_narrowCrossing_155
      rw [nI_1]
      refine ih (q + 1) g4 g5 (by omega) ho (fun j ej hjk hej hja => hasB_congr (hb j ej hjk hej hja) (fun w1 _ => ⟨fun z => ⟨z.1, fun p p' y1 y2 y3 => ?_⟩, fun z => ⟨z.1, fun p p' y1 y2 y3 => z.2 p p' y1 (by omega) y3⟩⟩))
      by_cases ep : p' = q
      · subst ep
        have hdj := (S_e hG hej).2.2.2.1
        rcases (show ej.2.2 = e.2.2 ∨ ej.2.2 = 1 - e.2.2 by omega) with y | y
        · exact absurd (thr_one hB hej hk y1 hq' y y3).1 hjk
        · exact absurd y3 (hno j ej p hej y1 y)
      · exact z.2 p p' y1 (by omega) y3
    · have kn' := (S_e hG a1).1
      have e6' := (S_e hG a1).2.2.1
      obtain ⟨l1, l2⟩ := hlt w q hw (by omega)
      rw [← a4, ← a3]
      refine sp_G_placeAt hB' a1 a2 ?_
      refine sp_L_letterOf hB' hw (by omega) ?_
      refine sp_L_keyOf l1 ?_
      rw [nI_add]
      refine sp_S_narrow (by omega) (by omega) ?_
      unfold wp_S_narrowCrossing_155
      rw [nI_1, a3]
      simp (decide := true) only [sx_il, sx_ia, sx_ib, sy_i, sz_i, sx_li, sx_la, sx_lb, sy_l, sz_l, sx_ai, sx_al, sx_ab, sy_a, sz_a, sx_bi, sx_bl, sx_ba, sy_b, sz_b, so_i, so_l, so_a, so_b, sci_0_1, sci_0_2, sci_1_2, sci_0_3, sci_1_3, sci_2_3, sci_0_4, sci_1_4, sci_2_4, sci_3_4, sci_0_5, sci_1_5, sci_2_5, sci_3_5, sci_4_5, sci_0_6, sci_1_6, sci_2_6, sci_3_6, sci_4_6, sci_5_6, sci_0_7, sci_1_7, sci_2_7, sci_3_7, sci_4_7, sci_5_7, sci_6_7, sci_0_8, sci_1_8, sci_2_8, sci_3_8, sci_4_8, sci_5_8, sci_6_8, sci_7_8, sci_0_9, sci_1_9, sci_2_9, sci_3_9, sci_4_9, sci_5_9, sci_6_9, sci_7_9, sci_8_9, sci_0_10, sci_1_10, sci_2_10, sci_3_10, sci_4_10, sci_5_10, sci_6_10, sci_7_10, sci_8_10, sci_9_10, sci_0_11, sci_1_11, sci_2_11, sci_3_11, sci_4_11, sci_5_11, sci_6_11, sci_7_11, sci_8_11, sci_9_11, sci_10_11, sci_0_12, sci_1_12, sci_2_12, sci_3_12, sci_4_12, sci_5_12, sci_6_12, sci_7_12, sci_8_12, sci_9_12, sci_10_12, sci_11_12, scl_0_1, sca_0_1, sca_0_2, sca_1_2, sca_0_3, sca_1_3, sca_2_3, sca_0_4, sca_1_4, sca_2_4, sca_3_4, sca_0_5, sca_1_5, sca_2_5, sca_3_5, sca_4_5, sca_0_6, sca_1_6, sca_2_6, sca_3_6, sca_4_6, sca_5_6, sca_0_7, sca_1_7, sca_2_7, sca_3_7, sca_4_7, sca_5_7, sca_6_7, sca_0_8, sca_1_8, sca_2_8, sca_3_8, sca_4_8, sca_5_8, sca_6_8, sca_7_8, sca_0_9, sca_1_9, sca_2_9, sca_3_9, sca_4_9, sca_5_9, sca_6_9, sca_7_9, sca_8_9, sca_0_10, sca_1_10, sca_2_10, sca_3_10, sca_4_10, sca_5_10, sca_6_10, sca_7_10, sca_8_10, sca_9_10, sca_0_11, sca_1_11, sca_2_11, sca_3_11, sca_4_11, sca_5_11, sca_6_11, sca_7_11, sca_8_11, sca_9_11, sca_10_11, sca_0_12, sca_1_12, sca_2_12, sca_3_12, sca_4_12, sca_5_12, sca_6_12, sca_7_12, sca_8_12, sca_9_12, sca_10_12, sca_11_12, sca_0_13, sca_1_13, sca_2_13, sca_3_13, sca_4_13, sca_5_13, sca_6_13, sca_7_13, sca_8_13, sca_9_13, sca_10_13, sca_11_13, sca_12_13, sca_0_14, sca_1_14, sca_2_14, sca_3_14, sca_4_14, sca_5_14, sca_6_14, sca_7_14, sca_8_14, sca_9_14, sca_10_14, sca_11_14, sca_12_14, sca_13_14, sca_0_15, sca_1_15, sca_2_15, sca_3_15, sca_4_15, sca_5_15, sca_6_15, sca_7_15, sca_8_15, sca_9_15, sca_10_15, sca_11_15, sca_12_15, sca_13_15, sca_14_15, sca_0_16, sca_1_16, sca_2_16, sca_3_16, sca_4_16, sca_5_16, sca_6_16, sca_7_16, sca_8_16, sca_9_16, sca_10_16, sca_11_16, sca_12_16, sca_13_16, sca_14_16, sca_15_16, sca_0_17, sca_1_17, sca_2_17, sca_3_17, sca_4_17, sca_5_17, sca_6_17, sca_7_17, sca_8_17, sca_9_17, sca_10_17, sca_11_17, sca_12_17, sca_13_17, sca_14_17, sca_15_17, sca_16_17, scb_0_1, scb_0_2, scb_1_2, scb_0_3, scb_1_3, scb_2_3, scb_0_4, scb_1_4, scb_2_4, scb_3_4, scb_0_5, scb_1_5, scb_2_5, scb_3_5, scb_4_5, sd_li, sd_ai, sd_bi, sd_al, sd_bl, sd_ba]
      refine ih (q + 1) _ _ (by omega) (fun i hi => ⟨?_, ?_⟩) (fun j ej hjk hej hja => ?_)
      · rw [pk_uLn (by omega)]; exact (ho i hi).1
      · rw [pk_uLn (by omega)]; exact (ho i hi).2
      · have jn := (S_e hG hej).1
        by_cases ejk : j = k'
        · subst ejk
          rw [a1] at hej
          cases hej
          rw [show (lv + 1) * 24 + j = lv * 24 + 24 + j by omega, pk_uLs, pk_uLs]
          have hb' := hb j e' hjk a1 hja
          rw [show (lv + 1) * 24 + j = lv * 24 + 24 + j by omega] at hb'
          refine hasB_congr (hasB_and hb' (hasB_key q4 hlt (q := p') (c := A.lt w q) (by omega) l1 l2)) (fun w1 _ => ⟨fun z => ⟨z.1.1, fun p p2 y1 y2 y3 => ?_⟩, fun z => ⟨⟨z.1, fun p p2 y1 y2 y3 => z.2 p p2 y1 (by omega) y3⟩, ?_, ?_⟩⟩)
          · by_cases ep : p2 = q
            · subst ep
              have : p = p' := (thr_one hB a1 a1 y1 a2 rfl (y3.trans a4.symm)).2
              rw [this]
              exact z.2.2
            · exact z.1.2 p p2 y1 (by omega) y3
          · obtain ⟨⟨e3, b1, b2, -⟩, -⟩ := z
            rw [a1] at b1
            cases b1
            rw [b2.1]
            exact a2
          · exact z.2 p' q a2 (by omega) a4
        · rw [pk_uLn (by omega), pk_uLn (by omega)]
          refine hasB_congr (hb j ej hjk hej hja) (fun w1 _ => ⟨fun z => ⟨z.1, fun p p2 y1 y2 y3 => ?_⟩, fun z => ⟨z.1, fun p p2 y1 y2 y3 => z.2 p p2 y1 (by omega) y3⟩⟩)
          by_cases ep : p2 = q
          · subst ep
            have hdj := (S_e hG hej).2.2.2.1
            rcases (show ej.2.2 = e.2.2 ∨ ej.2.2 = 1 - e.2.2 by omega) with y | y
            · exact absurd (thr_one hB hej hk y1 hq' y y3).1 hjk
            · exact absurd (thr_one hB hej a1 y1 a2 (y.trans a3.symm) (y3.trans a4.symm)).1 ejk
          · exact z.2 p p2 y1 (by omega) y3
