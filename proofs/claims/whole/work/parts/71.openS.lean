theorem sp_G_cellOfE {A : AS} {u : zz_St} {post : Int32 → zz_St → Prop} {k p : Nat} {e : Nat × Nat × Nat} (hB : CB A u) (hk : A.S[k]? = some e) (h : post (nI (celp A.W e p)) u) : wp_G_cellOf (nI k) (nI p) u post := by
  obtain ⟨⟨hG, -, hns, hP, hT⟩, -⟩ := hB
  obtain ⟨kn, e2, e6, ed, ec⟩ := S_e hG hk
  have h24 := S_len hG
  obtain ⟨p2, p3, p4⟩ := hP k e hk
  exact sp_G_cellOf (k := k) (p := p) (c := e.1) (d := e.2.2) (W := A.W) (by omega) p2 p4 hG.2.2.2.2.1 ed h
theorem sp_S_narrow {i q : Nat} {u : zz_St} {post : zz_St → Prop} (hi : i < 600) (hq : q < 156) (h : post (ss_b (ss_b u 4 (vp_updL (sg_b u 4) i (sg_b u 4 i &&& sg_b u 2 q))) 5 (vp_updL (sg_b u 5) i (sg_b u 5 i &&& sg_b u 3 q)))) : wp_S_narrow (nI i) (nI q) u post := by
  unfold wp_S_narrow
  rw [nI_clamp (n := i) (by omega), nI_clamp (n := q) (by omega)]
  refine ⟨vin hi, vin hq, ?_⟩
  rintro _ rfl
  refine ⟨vin hi, vin hi, vin hq, ?_⟩
  rintro _ rfl
  exact ⟨vin hi, h⟩
theorem sp_L_keyOf {p c : Nat} {u : zz_St} {post : Int32 → zz_St → Prop} (hc : 97 ≤ c) (h : post (nI (p * 26 + c - 97)) u) : wp_L_keyOf (nI p) (nI c) u post := by
  unfold wp_L_keyOf
  rw [show (26 : Int32) = nI 26 from rfl, pk_mul, nI_add, show (97 : Int32) = nI 97 from rfl, pk_sub (by omega)]
  exact h
theorem rW_lt {n : Nat} {len : Nat → Nat} {lt : Nat → Nat → Nat} {sc : Nat → Nat} {i : Int32} {a b c : Nat → Int32} (h : rW n len lt sc i a b c) : ∀ w p, w < n → p < len w → 97 ≤ lt w p ∧ lt w p ≤ 122 := fun w p hw hp => ((h.2.2 w hw).2.2.2.2.2 p hp).2
theorem sp_S_openSlot {A : AS} {u : zz_St} {post : zz_St → Prop} {k : Nat} {e : Nat × Nat × Nat} (hB : CB A u) (hV : VA A) (hk : A.S[k]? = some e)
    (h : ∀ g4 g5 : Nat → Int64, (∀ i, i ≠ k → g4 i = sg_b u 4 i ∧ g5 i = sg_b u 5 i) → hasB (ordW A.sc A.n) (fitG A k e) (g4 k) (g5 k) → post (ss_b (ss_b u 4 g4) 5 g5)) : wp_S_openSlot (nI k) u post := by
  obtain ⟨⟨hG, -, hns, hP, hT⟩, ⟨hW, hQ⟩, -, hVV, hTh⟩ := id hB
  obtain ⟨kn, e2, e6, ed, ec⟩ := S_e hG hk
  have h24 := S_len hG
  obtain ⟨p2, p3, p4⟩ := hP k e hk
  have ew := hG.2.2.2.2.1
  obtain ⟨q1, q2, q3, q4⟩ := id hQ
  have n80 : A.n ≤ 80 := hW.1
  unfold wp_S_openSlot
  rw [nI_clamp (n := k) (by omega), p3]
  refine ⟨vin (by omega), ?_⟩
  rintro _ rfl
  rw [nI_clamp (n := e.2.1) (by omega)]
  refine ⟨vin (by omega), ?_⟩
  rintro _ rfl
  refine ⟨vin (by omega), vin (by omega), ?_⟩
  rintro _ rfl
  refine ⟨vin (by omega), ⟨e.2.1 + 1, ?_⟩⟩
  suffices ∀ t q g4 g5, q + t = e.2.1 → (∀ i, i ≠ k → g4 i = sg_b u 4 i ∧ g5 i = sg_b u 5 i) → hasB (ordW A.sc A.n) (fun w => A.len w = e.2.1 ∧ ∀ p, p < q → A.gv (celp A.W e p) = 0 ∨ A.gv (celp A.W e p) = A.lt w p) (g4 k) (g5 k) → wp_S_openSlot_42_f post (t + 1) (nI k) (nI e.2.1) (nI q) (ss_b (ss_b u 4 g4) 5 g5) from by
    refine this e.2.1 0 _ _ (Nat.zero_add _) (fun i hi => ⟨pk_uLn hi, pk_uLn hi⟩) ?_
    rw [pk_uLs, pk_uLs]
    refine hasB_congr (hasB_len q3 (show e.2.1 < 7 by omega)) (fun w _ => ⟨fun z => ⟨z, fun p hp => absurd hp (Nat.not_lt_zero p)⟩, fun z => z.1⟩)
  intro t
  induction t with
  | zero =>
    intro q g4 g5 hq ho hb
    have eq : q = e.2.1 := by omega
    subst eq
    show wp_S_openSlot_42 post _ _ _ _ _
    unfold wp_S_openSlot_42
    simp (decide := true) only [sx_il, sx_ia, sx_ib, sy_i, sz_i, sx_li, sx_la, sx_lb, sy_l, sz_l, sx_ai, sx_al, sx_ab, sy_a, sz_a, sx_bi, sx_bl, sx_ba, sy_b, sz_b]
    rw [nI_clamp (n := k) (by omega), hTh k kn]
    refine pk_le e.2.1 e.2.1 (fun _ => ⟨vin (by omega), ?_⟩) (fun z => absurd z (by omega))
    rintro _ rfl
    cases ht : A.th k with
    | none =>
      refine ⟨fun _ => h g4 g5 ho (hasB_congr hb (fun w _ => ⟨fun z => ⟨z.1, fun t z2 => (by rw [ht] at z2; cases z2), z.2⟩, fun z => ⟨z.1, z.2.2⟩⟩)), fun z => absurd rfl z⟩
    | some w0 =>
      obtain ⟨w1, w2⟩ := hV.1 k e w0 hk ht
      refine ⟨fun z => absurd z (nI_nm1 (by omega)), fun _ => ⟨vin (by omega), ?_⟩⟩
      show vp_in (nI w0) 80 ∧ _
      have hr : ∃ r : Nat, (ordW A.sc A.n)[r]? = some w0 := List.getElem?_of_mem (ordW_mem.mpr w1)
      obtain ⟨r, hr⟩ := hr
      have hrn := (ord_get hr).1
      rw [show (oI (some w0)).toNatClampNeg = w0 from nI_clamp (n := w0) (by omega), q2 r w0 hrn hr]
      refine ⟨vin (by omega), ?_⟩
      refine sp_L_lowBit (by omega) (fun xl hl => ?_)
      rintro _ rfl
      refine ⟨vin (by omega), vin (by omega), vin (by omega), ?_⟩
      simp (decide := true) only [sx_il, sx_ia, sx_ib, sy_i, sz_i, sx_li, sx_la, sx_lb, sy_l, sz_l, sx_ai, sx_al, sx_ab, sy_a, sz_a, sx_bi, sx_bl, sx_ba, sy_b, sz_b]
      rw [q2 r w0 hrn hr]
      refine sp_L_highBit (by omega) (fun xh hh => ?_)
      rintro _ rfl
      refine ⟨vin (by omega), ?_⟩
      simp (decide := true) only [sx_il, sx_ia, sx_ib, sy_i, sz_i, sx_li, sx_la, sx_lb, sy_l, sz_l, sx_ai, sx_al, sx_ab, sy_a, sz_a, sx_bi, sx_bl, sx_ba, sy_b, sz_b, so_i, so_l, so_a, so_b, sci_0_1, sci_0_2, sci_1_2, sci_0_3, sci_1_3, sci_2_3, sci_0_4, sci_1_4, sci_2_4, sci_3_4, sci_0_5, sci_1_5, sci_2_5, sci_3_5, sci_4_5, sci_0_6, sci_1_6, sci_2_6, sci_3_6, sci_4_6, sci_5_6, sci_0_7, sci_1_7, sci_2_7, sci_3_7, sci_4_7, sci_5_7, sci_6_7, sci_0_8, sci_1_8, sci_2_8, sci_3_8, sci_4_8, sci_5_8, sci_6_8, sci_7_8, sci_0_9, sci_1_9, sci_2_9, sci_3_9, sci_4_9, sci_5_9, sci_6_9, sci_7_9, sci_8_9, sci_0_10, sci_1_10, sci_2_10, sci_3_10, sci_4_10, sci_5_10, sci_6_10, sci_7_10, sci_8_10, sci_9_10, sci_0_11, sci_1_11, sci_2_11, sci_3_11, sci_4_11, sci_5_11, sci_6_11, sci_7_11, sci_8_11, sci_9_11, sci_10_11, sci_0_12, sci_1_12, sci_2_12, sci_3_12, sci_4_12, sci_5_12, sci_6_12, sci_7_12, sci_8_12, sci_9_12, sci_10_12, sci_11_12, scl_0_1, sca_0_1, sca_0_2, sca_1_2, sca_0_3, sca_1_3, sca_2_3, sca_0_4, sca_1_4, sca_2_4, sca_3_4, sca_0_5, sca_1_5, sca_2_5, sca_3_5, sca_4_5, sca_0_6, sca_1_6, sca_2_6, sca_3_6, sca_4_6, sca_5_6, sca_0_7, sca_1_7, sca_2_7, sca_3_7, sca_4_7, sca_5_7, sca_6_7, sca_0_8, sca_1_8, sca_2_8, sca_3_8, sca_4_8, sca_5_8, sca_6_8, sca_7_8, sca_0_9, sca_1_9, sca_2_9, sca_3_9, sca_4_9, sca_5_9, sca_6_9, sca_7_9, sca_8_9, sca_0_10, sca_1_10, sca_2_10, sca_3_10, sca_4_10, sca_5_10, sca_6_10, sca_7_10, sca_8_10, sca_9_10, sca_0_11, sca_1_11, sca_2_11, sca_3_11, sca_4_11, sca_5_11, sca_6_11, sca_7_11, sca_8_11, sca_9_11, sca_10_11, sca_0_12, sca_1_12, sca_2_12, sca_3_12, sca_4_12, sca_5_12, sca_6_12, sca_7_12, sca_8_12, sca_9_12, sca_10_12, sca_11_12, sca_0_13, sca_1_13, sca_2_13, sca_3_13, sca_4_13, sca_5_13, sca_6_13, sca_7_13, sca_8_13, sca_9_13, sca_10_13, sca_11_13, sca_12_13, sca_0_14, sca_1_14, sca_2_14, sca_3_14, sca_4_14, sca_5_14, sca_6_14, sca_7_14, sca_8_14, sca_9_14, sca_10_14, sca_11_14, sca_12_14, sca_13_14, sca_0_15, sca_1_15, sca_2_15, sca_3_15, sca_4_15, sca_5_15, sca_6_15, sca_7_15, sca_8_15, sca_9_15, sca_10_15, sca_11_15, sca_12_15, sca_13_15, sca_14_15, sca_0_16, sca_1_16, sca_2_16, sca_3_16, sca_4_16, sca_5_16, sca_6_16, sca_7_16, sca_8_16, sca_9_16, sca_10_16, sca_11_16, sca_12_16, sca_13_16, sca_14_16, sca_15_16, sca_0_17, sca_1_17, sca_2_17, sca_3_17, sca_4_17, sca_5_17, sca_6_17, sca_7_17, sca_8_17, sca_9_17, sca_10_17, sca_11_17, sca_12_17, sca_13_17, sca_14_17, sca_15_17, sca_16_17, scb_0_1, scb_0_2, scb_1_2, scb_0_3, scb_1_3, scb_2_3, scb_0_4, scb_1_4, scb_2_4, scb_3_4, scb_0_5, scb_1_5, scb_2_5, scb_3_5, scb_4_5, sd_li, sd_ai, sd_bi, sd_al, sd_bl, sd_ba]
      refine h _ _ (fun i hi => ⟨?_, ?_⟩) ?_
      · rw [pk_uLn hi]; exact (ho i hi).1
      · rw [pk_uLn hi]; exact (ho i hi).2
      · rw [pk_uLs, pk_uLs]
        refine hasB_congr (hasB_and hb (hasB_bit ordW_nodup hr hl hh)) (fun w _ => ⟨fun z => ⟨z.1.1, fun t z2 => ?_, z.1.2⟩, fun z => ⟨⟨z.1, z.2.2⟩, ?_⟩⟩)
        · rw [ht] at z2
          cases z2
          exact z.2.symm
        · exact (z.2.1 w0 ht).symm
  | succ t ih =>
    intro q g4 g5 hq ho hb
    show wp_S_openSlot_42 post _ _ _ _ _
    unfold wp_S_openSlot_42
    refine pk_le e.2.1 q (fun z => absurd z (by omega)) (fun _ => ?_)
    have hc := ec q (by omega)
    refine sp_G_cellOfE (CB_b5 (CB_b4 hB)) hk ?_
    rw [nI_clamp (n := celp A.W e q) (by omega)]
    simp (decide := true) only [sx_il, sx_ia, sx_ib, sy_i, sz_i, sx_li, sx_la, sx_lb, sy_l, sz_l, sx_ai, sx_al, sx_ab, sy_a, sz_a, sx_bi, sx_bl, sx_ba, sy_b, sz_b]
    obtain ⟨v1, v2⟩ := hVV (celp A.W e q) hc
    rw [v1]
    refine ⟨vin hc, ?_⟩
    rintro _ rfl
    refine pk_eq (A.gv (celp A.W e q)) 0 (fun g0 => ?_) (fun g0 => ?_)
    · unfold wp_S_openSlot_82
      rw [nI_1]
      refine ih (q + 1) g4 g5 (by omega) ho (hasB_congr hb (fun w _ => ⟨fun z => ⟨z.1, fun p hp => ?_⟩, fun z => ⟨z.1, fun p hp => z.2 p (by omega)⟩⟩))
      by_cases ep : p = q
      · rw [ep]; exact Or.inl g0
      · exact z.2 p (by omega)
    · refine sp_L_keyOf (by omega) (sp_S_narrow (by omega) (by omega) ?_)
      unfold wp_S_openSlot_82
      rw [nI_1]
      simp (decide := true) only [sx_il, sx_ia, sx_ib, sy_i, sz_i, sx_li, sx_la, sx_lb, sy_l, sz_l, sx_ai, sx_al, sx_ab, sy_a, sz_a, sx_bi, sx_bl, sx_ba, sy_b, sz_b, so_i, so_l, so_a, so_b, sci_0_1, sci_0_2, sci_1_2, sci_0_3, sci_1_3, sci_2_3, sci_0_4, sci_1_4, sci_2_4, sci_3_4, sci_0_5, sci_1_5, sci_2_5, sci_3_5, sci_4_5, sci_0_6, sci_1_6, sci_2_6, sci_3_6, sci_4_6, sci_5_6, sci_0_7, sci_1_7, sci_2_7, sci_3_7, sci_4_7, sci_5_7, sci_6_7, sci_0_8, sci_1_8, sci_2_8, sci_3_8, sci_4_8, sci_5_8, sci_6_8, sci_7_8, sci_0_9, sci_1_9, sci_2_9, sci_3_9, sci_4_9, sci_5_9, sci_6_9, sci_7_9, sci_8_9, sci_0_10, sci_1_10, sci_2_10, sci_3_10, sci_4_10, sci_5_10, sci_6_10, sci_7_10, sci_8_10, sci_9_10, sci_0_11, sci_1_11, sci_2_11, sci_3_11, sci_4_11, sci_5_11, sci_6_11, sci_7_11, sci_8_11, sci_9_11, sci_10_11, sci_0_12, sci_1_12, sci_2_12, sci_3_12, sci_4_12, sci_5_12, sci_6_12, sci_7_12, sci_8_12, sci_9_12, sci_10_12, sci_11_12, scl_0_1, sca_0_1, sca_0_2, sca_1_2, sca_0_3, sca_1_3, sca_2_3, sca_0_4, sca_1_4, sca_2_4, sca_3_4, sca_0_5, sca_1_5, sca_2_5, sca_3_5, sca_4_5, sca_0_6, sca_1_6, sca_2_6, sca_3_6, sca_4_6, sca_5_6, sca_0_7, sca_1_7, sca_2_7, sca_3_7, sca_4_7, sca_5_7, sca_6_7, sca_0_8, sca_1_8, sca_2_8, sca_3_8, sca_4_8, sca_5_8, sca_6_8, sca_7_8, sca_0_9, sca_1_9, sca_2_9, sca_3_9, sca_4_9, sca_5_9, sca_6_9, sca_7_9, sca_8_9, sca_0_10, sca_1_10, sca_2_10, sca_3_10, sca_4_10, sca_5_10, sca_6_10, sca_7_10, sca_8_10, sca_9_10, sca_0_11, sca_1_11, sca_2_11, sca_3_11, sca_4_11, sca_5_11, sca_6_11, sca_7_11, sca_8_11, sca_9_11, sca_10_11, sca_0_12, sca_1_12, sca_2_12, sca_3_12, sca_4_12, sca_5_12, sca_6_12, sca_7_12, sca_8_12, sca_9_12, sca_10_12, sca_11_12, sca_0_13, sca_1_13, sca_2_13, sca_3_13, sca_4_13, sca_5_13, sca_6_13, sca_7_13, sca_8_13, sca_9_13, sca_10_13, sca_11_13, sca_12_13, sca_0_14, sca_1_14, sca_2_14, sca_3_14, sca_4_14, sca_5_14, sca_6_14, sca_7_14, sca_8_14, sca_9_14, sca_10_14, sca_11_14, sca_12_14, sca_13_14, sca_0_15, sca_1_15, sca_2_15, sca_3_15, sca_4_15, sca_5_15, sca_6_15, sca_7_15, sca_8_15, sca_9_15, sca_10_15, sca_11_15, sca_12_15, sca_13_15, sca_14_15, sca_0_16, sca_1_16, sca_2_16, sca_3_16, sca_4_16, sca_5_16, sca_6_16, sca_7_16, sca_8_16, sca_9_16, sca_10_16, sca_11_16, sca_12_16, sca_13_16, sca_14_16, sca_15_16, sca_0_17, sca_1_17, sca_2_17, sca_3_17, sca_4_17, sca_5_17, sca_6_17, sca_7_17, sca_8_17, sca_9_17, sca_10_17, sca_11_17, sca_12_17, sca_13_17, sca_14_17, sca_15_17, sca_16_17, scb_0_1, scb_0_2, scb_1_2, scb_0_3, scb_1_3, scb_2_3, scb_0_4, scb_1_4, scb_2_4, scb_3_4, scb_0_5, scb_1_5, scb_2_5, scb_3_5, scb_4_5, sd_li, sd_ai, sd_bi, sd_al, sd_bl, sd_ba]
      refine ih (q + 1) _ _ (by omega) (fun i hi => ⟨?_, ?_⟩) ?_
      · rw [pk_uLn hi]; exact (ho i hi).1
      · rw [pk_uLn hi]; exact (ho i hi).2
      · rw [pk_uLs, pk_uLs]
        refine hasB_congr (hasB_and hb (hasB_key q4 (rW_lt hW) (q := q) (c := A.gv (celp A.W e q)) (by omega) (by omega) (by omega))) (fun w _ => ⟨fun z => ⟨z.1.1, fun p hp => ?_⟩, fun z => ⟨⟨z.1, fun p hp => z.2 p (by omega)⟩, by rw [z.1]; omega, ?_⟩⟩)
        · by_cases ep : p = q
          · rw [ep]; exact Or.inr z.2.2.symm
          · exact z.1.2 p (by omega)
        · rcases z.2 q (by omega) with y | y
          · exact absurd y g0
          · exact y.symm
theorem usedA_none {A : AS} {w : Nat} : ¬ usedA A (fun _ => none) w := fun ⟨_, _, z⟩ => by cases z
theorem fitA_none {A : AS} {k w : Nat} {e : Nat × Nat × Nat} (hk : A.S[k]? = some e) : fitA A (fun _ => none) k w ↔ fitG A k e w := by
  constructor
  · rintro ⟨e', h1, h2, -⟩
    rw [hk] at h1
    cases h1
    exact h2
  · intro z
    exact ⟨e, hk, z, fun _ _ _ _ y => by cases y⟩
theorem rks_cnt {l : List Nat} {P : Nat → Prop} {lo hi : Int64} (hl : l.length ≤ 128) (h : hasB l P lo hi) : pcl lo + pcl hi = (l.filter (fun w => pB (P w))).length := by
  rw [← rks_len, ← rks_filter hl h, List.length_map]
theorem sp_S_countAtStart {A : AS} {u : zz_St} {post : Int32 → zz_St → Prop} {k : Nat} {e : Nat × Nat × Nat} (hB : CB A u) (hV : VA A) (hk : A.S[k]? = some e)
    (h : ∀ g4 g5 : Nat → Int64, post (nI (cL A (fun _ => none) k).length) (ss_b (ss_b u 4 g4) 5 g5)) : wp_S_countAtStart (nI k) u post := by
  have hG := hB.1.1
  have h24 := S_len hG
  obtain ⟨kn, -⟩ := S_e hG hk
  have n80 : A.n ≤ 80 := hB.2.1.1.1
  unfold wp_S_countAtStart
  refine sp_S_openSlot hB hV hk (fun g4 g5 _ hb => ⟨vin (by omega), ?_⟩)
  refine sp_JL_bitCount ⟨vin (by omega), sp_JL_bitCount ?_⟩
  rw [nI_clamp (n := k) (by omega)]
  simp (decide := true) only [sx_il, sx_ia, sx_ib, sy_i, sz_i, sx_li, sx_la, sx_lb, sy_l, sz_l, sx_ai, sx_al, sx_ab, sy_a, sz_a, sx_bi, sx_bl, sx_ba, sy_b, sz_b]
  rw [nI_add, rks_cnt (by rw [ordW_len]; omega) hb]
  have e1 : cL A (fun _ => none) k = (ordW A.sc A.n).filter (fun w => pB (fitG A k e w)) := by
    unfold cL
    refine List.filter_congr (fun w _ => pB_congr ⟨fun z => (fitA_none hk).mp z.1, fun z => ⟨(fitA_none hk).mpr z, usedA_none⟩⟩)
  rw [← e1]
  exact h g4 g5
