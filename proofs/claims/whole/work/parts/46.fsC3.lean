def stS (u : zz_St) (n : Nat) (f2 f3 f4 f6 f7 : Nat → Int32) : zz_St := ss_a (ss_a (ss_a (ss_a (ss_a (ss_i u 3 (nI n)) 2 f2) 3 f3) 4 f4) 6 f6) 7 f7
theorem addS_stS (W : Nat) (u : zz_St) (n m : Nat) (f2 f3 f4 f6 f7 : Nat → Int32) (e : Nat × Nat × Nat) : addS W (stS u m f2 f3 f4 f6 f7) n e = stS u (n + 1) (upd f2 n (nI e.1)) (upd f3 n (nI e.2.1)) (upd f4 n (nI e.2.2)) (mkf (fun p => e.2.2 * 36 + celp W e p) (fun _ => nI n) e.2.1 f6) (mkf (fun p => e.2.2 * 36 + celp W e p) (fun p => nI p) e.2.1 f7) := by
  unfold addS stS
  simp (decide := true) only [sx_il, sx_ia, sx_ib, sy_i, sz_i, sx_li, sx_la, sx_lb, sy_l, sz_l, sx_ai, sx_al, sx_ab, sy_a, sz_a, sx_bi, sx_bl, sx_ba, sy_b, sz_b, so_i, so_l, so_a, so_b, sci_0_1, sci_0_2, sci_1_2, sci_0_3, sci_1_3, sci_2_3, sci_0_4, sci_1_4, sci_2_4, sci_3_4, sci_0_5, sci_1_5, sci_2_5, sci_3_5, sci_4_5, sci_0_6, sci_1_6, sci_2_6, sci_3_6, sci_4_6, sci_5_6, sci_0_7, sci_1_7, sci_2_7, sci_3_7, sci_4_7, sci_5_7, sci_6_7, sci_0_8, sci_1_8, sci_2_8, sci_3_8, sci_4_8, sci_5_8, sci_6_8, sci_7_8, sci_0_9, sci_1_9, sci_2_9, sci_3_9, sci_4_9, sci_5_9, sci_6_9, sci_7_9, sci_8_9, sci_0_10, sci_1_10, sci_2_10, sci_3_10, sci_4_10, sci_5_10, sci_6_10, sci_7_10, sci_8_10, sci_9_10, sci_0_11, sci_1_11, sci_2_11, sci_3_11, sci_4_11, sci_5_11, sci_6_11, sci_7_11, sci_8_11, sci_9_11, sci_10_11, sci_0_12, sci_1_12, sci_2_12, sci_3_12, sci_4_12, sci_5_12, sci_6_12, sci_7_12, sci_8_12, sci_9_12, sci_10_12, sci_11_12, scl_0_1, sca_0_1, sca_0_2, sca_1_2, sca_0_3, sca_1_3, sca_2_3, sca_0_4, sca_1_4, sca_2_4, sca_3_4, sca_0_5, sca_1_5, sca_2_5, sca_3_5, sca_4_5, sca_0_6, sca_1_6, sca_2_6, sca_3_6, sca_4_6, sca_5_6, sca_0_7, sca_1_7, sca_2_7, sca_3_7, sca_4_7, sca_5_7, sca_6_7, sca_0_8, sca_1_8, sca_2_8, sca_3_8, sca_4_8, sca_5_8, sca_6_8, sca_7_8, sca_0_9, sca_1_9, sca_2_9, sca_3_9, sca_4_9, sca_5_9, sca_6_9, sca_7_9, sca_8_9, sca_0_10, sca_1_10, sca_2_10, sca_3_10, sca_4_10, sca_5_10, sca_6_10, sca_7_10, sca_8_10, sca_9_10, sca_0_11, sca_1_11, sca_2_11, sca_3_11, sca_4_11, sca_5_11, sca_6_11, sca_7_11, sca_8_11, sca_9_11, sca_10_11, sca_0_12, sca_1_12, sca_2_12, sca_3_12, sca_4_12, sca_5_12, sca_6_12, sca_7_12, sca_8_12, sca_9_12, sca_10_12, sca_11_12, sca_0_13, sca_1_13, sca_2_13, sca_3_13, sca_4_13, sca_5_13, sca_6_13, sca_7_13, sca_8_13, sca_9_13, sca_10_13, sca_11_13, sca_12_13, sca_0_14, sca_1_14, sca_2_14, sca_3_14, sca_4_14, sca_5_14, sca_6_14, sca_7_14, sca_8_14, sca_9_14, sca_10_14, sca_11_14, sca_12_14, sca_13_14, sca_0_15, sca_1_15, sca_2_15, sca_3_15, sca_4_15, sca_5_15, sca_6_15, sca_7_15, sca_8_15, sca_9_15, sca_10_15, sca_11_15, sca_12_15, sca_13_15, sca_14_15, sca_0_16, sca_1_16, sca_2_16, sca_3_16, sca_4_16, sca_5_16, sca_6_16, sca_7_16, sca_8_16, sca_9_16, sca_10_16, sca_11_16, sca_12_16, sca_13_16, sca_14_16, sca_15_16, sca_0_17, sca_1_17, sca_2_17, sca_3_17, sca_4_17, sca_5_17, sca_6_17, sca_7_17, sca_8_17, sca_9_17, sca_10_17, sca_11_17, sca_12_17, sca_13_17, sca_14_17, sca_15_17, sca_16_17, scb_0_1, scb_0_2, scb_1_2, scb_0_3, scb_1_3, scb_2_3, scb_0_4, scb_1_4, scb_2_4, scb_3_4, scb_0_5, scb_1_5, scb_2_5, scb_3_5, scb_4_5, sd_li, sd_ai, sd_bi, sd_al, sd_bl, sd_ba]
theorem hasP_add {P : List (Nat × Nat × Nat)} {f2 f3 f4 : Nat → Int32} {e : Nat × Nat × Nat} (h : hasP P f2 f3 f4) : hasP (P ++ [e]) (upd f2 P.length (nI e.1)) (upd f3 P.length (nI e.2.1)) (upd f4 P.length (nI e.2.2)) := by
  intro k e' he
  by_cases hk : k < P.length
  · rw [List.getElem?_append_left hk] at he
    have := h k e' he
    unfold upd
    rw [if_neg (by omega), if_neg (by omega), if_neg (by omega)]
    exact this
  · rw [List.getElem?_append_right (by omega)] at he
    have hz : k - P.length < 1 := (List.getElem?_eq_some_iff.mp he).1
    have e0 : k = P.length := by omega
    subst e0
    rw [Nat.sub_self] at he
    cases he
    unfold upd
    rw [if_pos rfl, if_pos rfl, if_pos rfl]
    exact ⟨rfl, rfl, rfl⟩
theorem celp_inj {W : Nat} {e : Nat × Nat × Nat} (hW : 1 ≤ W) {a b : Nat} (h : celp W e a = celp W e b) : a = b := by
  unfold celp at h
  by_cases q : e.2.2 = 0
  · rw [if_pos q] at h; omega
  · rw [if_neg q] at h
    have h2 : a * W = b * W := by omega
    exact Nat.eq_of_mul_eq_mul_right (by omega) h2
theorem celp_lt {W H : Nat} {bl : Nat → Nat} {d c p : Nat} (hW : W ≤ 6) (hH : H ≤ 6) (hd : d < 2) (h : isSt W H bl d c = true) (hp : p < (mkS W H bl d c).2.1) : celp W (mkS W H bl d c) p < W * H := by
  obtain ⟨o1, o2, -⟩ := isSt_xy hd h hp
  rw [celp_mk hd]
  exact cell_lt o1 o2
def froms (W H : Nat) (bl : Nat → Nat) (P : List (Nat × Nat × Nat)) : Prop := ∀ e ∈ P, ∃ d c, d < 2 ∧ isSt W H bl d c = true ∧ e = mkS W H bl d c
theorem thr_add {W H : Nat} {bl : Nat → Nat} {P : List (Nat × Nat × Nat)} {f6 f7 : Nat → Int32} {d c : Nat} (hW1 : 1 ≤ W) (hW : W ≤ 6) (hH : H ≤ 6) (hd : d < 2) (hs : isSt W H bl d c = true) (hP : froms W H bl P) (hnew : ∀ c', mkS W H bl d c' ∈ P → c' ≠ c) (h : thr W P f6 f7) :
    thr W (P ++ [mkS W H bl d c]) (mkf (fun p => d * 36 + celp W (mkS W H bl d c) p) (fun _ => nI P.length) (mkS W H bl d c).2.1 f6) (mkf (fun p => d * 36 + celp W (mkS W H bl d c) p) (fun p => nI p) (mkS W H bl d c).2.1 f7) := by
  have h36 := WH_le hW hH
  have ginj : ∀ a b, (fun p => d * 36 + celp W (mkS W H bl d c) p) a = (fun p => d * 36 + celp W (mkS W H bl d c) p) b → a = b := fun a b q => celp_inj hW1 (by simpa using q)
  refine ⟨fun k e p hk hp => ?_, fun i hi => ?_⟩
  · by_cases hk2 : k < P.length
    · rw [List.getElem?_append_left hk2] at hk
      obtain ⟨d', c', hd', hs', rfl⟩ := hP e (List.mem_of_getElem? hk)
      have hlt := celp_lt hW hH hd' hs' hp
      have hout : ∀ q, q < (mkS W H bl d c).2.1 → (mkS W H bl d' c').2.2 * 36 + celp W (mkS W H bl d' c') p ≠ (fun p => d * 36 + celp W (mkS W H bl d c) p) q := by
        intro q hq e
        have hlt2 := celp_lt hW hH hd hs hq
        have e2 : d' * 36 + celp W (mkS W H bl d' c') p = d * 36 + celp W (mkS W H bl d c) q := e
        have e3 : d' = d := by omega
        subst e3
        have e4 : celp W (mkS W H bl d' c') p = celp W (mkS W H bl d' c) q := by omega
        exact mkS_apart hd hs' hs (hnew c' (List.mem_of_getElem? hk)) hp hq e4
      rw [mkf_out hout, mkf_out hout]
      exact h.1 k _ p hk hp
    · rw [List.getElem?_append_right (by omega)] at hk
      have hz : k - P.length < 1 := (List.getElem?_eq_some_iff.mp hk).1
      have e0 : k = P.length := by omega
      subst e0
      rw [Nat.sub_self] at hk
      cases hk
      exact ⟨mkf_in (g := fun p => d * 36 + celp W (mkS W H bl d c) p) (v := fun _ => nI P.length) ginj hp, mkf_in (g := fun p => d * 36 + celp W (mkS W H bl d c) p) (v := fun p => nI p) ginj hp⟩
  · by_cases q : ∃ p, p < (mkS W H bl d c).2.1 ∧ i = d * 36 + celp W (mkS W H bl d c) p
    · obtain ⟨p, hp, rfl⟩ := q
      refine Or.inr ⟨P.length, mkS W H bl d c, p, ?_, hp, rfl⟩
      rw [List.getElem?_append_right (Nat.le_refl _), Nat.sub_self]
      rfl
    · have hout : ∀ p, p < (mkS W H bl d c).2.1 → i ≠ (fun p => d * 36 + celp W (mkS W H bl d c) p) p := fun p hp e => q ⟨p, hp, e⟩
      rw [mkf_out hout]
      rcases h.2 i hi with g | ⟨k, e, p, g1, g2, g3⟩
      · exact Or.inl g
      · refine Or.inr ⟨k, e, p, ?_, g2, g3⟩
        rw [List.getElem?_append_left (List.getElem?_eq_some_iff.mp g1).1]
        exact g1
def doneS (W H : Nat) (bl : Nat → Nat) (d c : Nat) : List (Nat × Nat × Nat) := if d = 0 then preS W H bl 0 c else preS W H bl 0 (W * H) ++ preS W H bl 1 c
theorem doneS_succ {W H : Nat} {bl : Nat → Nat} {d c : Nat} (hd : d < 2) : doneS W H bl d (c + 1) = doneS W H bl d c ++ (if isSt W H bl d c = true then [mkS W H bl d c] else []) := by
  unfold doneS
  rcases (show d = 0 ∨ d = 1 by omega) with rfl | rfl
  · rw [if_pos rfl, if_pos rfl, preS_succ]
  · rw [if_neg (by decide), if_neg (by decide), preS_succ, List.append_assoc]
theorem doneS_len {W H : Nat} {bl : Nat → Nat} (hW : W ≤ 6) (hH : H ≤ 6) {d c : Nat} (hd : d < 2) : (doneS W H bl d c).length ≤ 24 := by
  unfold doneS
  have h1 := preS_len (bl := bl) hW hH (d := 0) (n := W * H) (by decide)
  have h2 := preS_len (bl := bl) hW hH (d := 0) (n := c) (by decide)
  have h3 := preS_len (bl := bl) hW hH (d := 1) (n := c) (by decide)
  split
  · omega
  · rw [List.length_append]; omega
theorem doneS_from {W H : Nat} {bl : Nat → Nat} {d c : Nat} : froms W H bl (doneS W H bl d c) := by
  intro e he
  unfold doneS at he
  split at he
  · obtain ⟨c', -, h2, rfl⟩ := mem_preS.mp he
    exact ⟨0, c', by decide, h2, rfl⟩
  · rcases List.mem_append.mp he with he | he
    · obtain ⟨c', -, h2, rfl⟩ := mem_preS.mp he
      exact ⟨0, c', by decide, h2, rfl⟩
    · obtain ⟨c', -, h2, rfl⟩ := mem_preS.mp he
      exact ⟨1, c', by decide, h2, rfl⟩
theorem doneS_new {W H : Nat} {bl : Nat → Nat} {d c c' : Nat} (hd : d < 2) (h : mkS W H bl d c' ∈ doneS W H bl d c) : c' ≠ c := by
  unfold doneS at h
  have key : ∀ {d1 d2 n : Nat}, mkS W H bl d1 c' ∈ preS W H bl d2 n → d1 = d2 ∧ c' < n := by
    intro d1 d2 n hm
    obtain ⟨c2, q1, q2, q3⟩ := mem_preS.mp hm
    unfold mkS at q3
    simp only [Prod.mk.injEq] at q3
    omega
  rcases (show d = 0 ∨ d = 1 by omega) with rfl | rfl
  · rw [if_pos rfl] at h
    have := key h; omega
  · rw [if_neg (by decide)] at h
    rcases List.mem_append.mp h with h | h
    · have := key h; omega
    · have := key h; omega
theorem slS_len {W H : Nat} {bl : Nat → Nat} (hW : W ≤ 6) (hH : H ≤ 6) : (slS W H bl).length ≤ 24 := by
  have := doneS_len (bl := bl) hW hH (d := 1) (c := W * H) (by decide)
  unfold doneS at this
  rw [if_neg (by decide)] at this
  exact this
theorem slS_from {W H : Nat} {bl : Nat → Nat} : froms W H bl (slS W H bl) := by
  have := doneS_from (W := W) (H := H) (bl := bl) (d := 1) (c := W * H)
  unfold doneS at this
  rw [if_neg (by decide)] at this
  exact this
