theorem sp_M_isRow {n : Nat} {len : Nat → Nat} {lt : Nat → Nat → Nat} {sc : Nat → Nat} {cn : Nat} {cl : Nat → Nat} {u : zz_St} {post : Int32 → zz_St → Prop} {w : Nat} (hW : rW n len lt sc (sg_i u 4) (sg_a u 3) (sg_a u 5) (sg_a u 4)) (hK : rK cn cl (sg_i u 3) (sg_a u 2)) (hw : w < n)
    (h1 : sameW cn cl len lt w → post 1 u) (h0 : ¬ sameW cn cl len lt w → post 0 u) : wp_M_isRow (nI w) u post := by
  obtain ⟨hn, e4, hwd⟩ := hW
  obtain ⟨k6, e5, kc⟩ := hK
  obtain ⟨l2, l6, ls, e9, e10, elt⟩ := hwd w hw
  unfold wp_M_isRow
  rw [nI_clamp (n := w) (by omega), e9, e5]
  refine ⟨pk_in w 80 (by omega), pk_eq (len w) cn (fun e => ?_) (fun e => h0 (fun q => e q.1))⟩
  suffices ∀ t p, p + t = cn → (∀ q, q < p → lt w q = cl q) → ∃ m, wp_M_isRow_17_f post m (nI w) (nI p) u from this cn 0 (Nat.zero_add cn) (fun q z => absurd z (Nat.not_lt_zero q))
  intro t
  induction t with
  | zero =>
    intro p hp hs
    refine ⟨1, ?_⟩
    show wp_M_isRow_17 post _ _ _ _
    unfold wp_M_isRow_17
    rw [e5]
    exact pk_le cn p (fun _ => h1 ⟨e, fun q z => hs q (by omega)⟩) (fun z => absurd z (by omega))
  | succ t ih =>
    intro p hp hs
    obtain ⟨el, b1⟩ := elt p (by omega)
    obtain ⟨ec, b2⟩ := kc p (by omega)
    have ei : 6 * nI w + nI p = nI (w * 6 + p) := by rw [show (6 : Int32) = nI 6 from rfl, pk_mul, nI_add, Nat.mul_comm]
    by_cases q : lt w p = cl p
    · obtain ⟨m, hm⟩ := ih (p + 1) (by omega) (fun q' z => by
        by_cases z2 : q' = p
        · rw [z2]; exact q
        · exact hs q' (by omega))
      refine ⟨m + 1, ?_⟩
      show wp_M_isRow_17 post _ _ _ _
      unfold wp_M_isRow_17
      rw [e5, ei, nI_clamp (n := w * 6 + p) (by omega), el, nI_clamp (n := p) (by omega), ec, nI_1]
      exact pk_le cn p (fun z => absurd z (by omega)) (fun _ => ⟨pk_in (w * 6 + p) 480 (by omega), pk_in p 6 (by omega), pk_eq (lt w p) (cl p) (fun _ => hm) (fun z => absurd q z)⟩)
    · refine ⟨1, ?_⟩
      show wp_M_isRow_17 post _ _ _ _
      unfold wp_M_isRow_17
      rw [e5, ei, nI_clamp (n := w * 6 + p) (by omega), el, nI_clamp (n := p) (by omega), ec]
      exact pk_le cn p (fun z => absurd z (by omega)) (fun _ => ⟨pk_in (w * 6 + p) 480 (by omega), pk_in p 6 (by omega), pk_eq (lt w p) (cl p) (fun z => absurd z q) (fun _ => h0 (fun z => q (z.2 p (by omega))))⟩)
def stWM (u : zz_St) (n : Nat) (f3 f4 f5 : Nat → Int32) : zz_St := ss_a (ss_a (ss_a (ss_i (ss_i (ss_i u 0 0) 3 0) 4 (nI n)) 3 f3) 4 f4) 5 f5
theorem sp_M_word {n : Nat} {len : Nat → Nat} {lt : Nat → Nat → Nat} {sc : Nat → Nat} {cn : Nat} {cl : Nat → Nat} {a0 : Int32} {u : zz_St} {post : Int32 → zz_St → Prop} (hW : rW n len lt sc (sg_i u 4) (sg_a u 3) (sg_a u 5) (sg_a u 4)) (hK : rK cn cl (sg_i u 3) (sg_a u 2))
    (h1 : ∀ s : Nat, s ≤ 1000 → a0 = nI s → 2 ≤ cn → n < 80 → (¬ ∃ w, w < n ∧ sameW cn cl len lt w) → ∀ f3 f4 f5, rW (n + 1) (len' n cn len) (lt' n cl lt) (sc' n s sc) (nI (n + 1)) f3 f5 f4 → post (nI n) (stWM u (n + 1) f3 f4 f5))
    (h0 : ¬ (2 ≤ cn ∧ (∃ s : Nat, s ≤ 1000 ∧ a0 = nI s) ∧ n < 80 ∧ ¬ ∃ w, w < n ∧ sameW cn cl len lt w) → post (-1) (ss_i (ss_i u 0 0) 3 0)) : wp_M_word a0 u post := by
  obtain ⟨hn, e4, hwd⟩ := id hW
  obtain ⟨k6, e5, kc⟩ := id hK
  unfold wp_M_word wp_M_enter
  simp (decide := true) only [sx_il, sx_ia, sx_ib, sy_i, sz_i, sx_li, sx_la, sx_lb, sy_l, sz_l, sx_ai, sx_al, sx_ab, sy_a, sz_a, sx_bi, sx_bl, sx_ba, sy_b, sz_b]
  rw [e5, e4]
  refine pk_lt cn 2 (fun q => h0 (fun z => by omega)) (fun q2 => ?_)
  refine ⟨fun q => h0 ?_, fun q0 => ⟨fun q => h0 ?_, fun q1 => ?_⟩⟩
  · rintro ⟨-, ⟨s, z1, z2⟩, -⟩
    rw [z2] at q
    exact nI_pos (by omega) q
  · rintro ⟨-, ⟨s, z1, z2⟩, -⟩
    rw [z2] at q
    exact absurd ((nI_ltI (a := 1000) (b := s) (by omega) (by omega)).mp q) (by omega)
  · obtain ⟨s, hs31, rfl⟩ := nI_of q0
    have hs : s ≤ 1000 := by
      have := (not_congr (nI_ltI (a := 1000) (b := s) (by omega) hs31)).mp q1
      omega
    refine pk_eq n 80 (fun q => h0 (fun z => by omega)) (fun qn0 => ?_)
    have qn : n < 80 := by omega
    have hW0 : rW n len lt sc (sg_i (ss_i u 0 0) 4) (sg_a (ss_i u 0 0) 3) (sg_a (ss_i u 0 0) 5) (sg_a (ss_i u 0 0) 4) := by simp (decide := true) only [sx_il, sx_ia, sx_ib, sy_i, sz_i, sx_li, sx_la, sx_lb, sy_l, sz_l, sx_ai, sx_al, sx_ab, sy_a, sz_a, sx_bi, sx_bl, sx_ba, sy_b, sz_b]; exact hW
    have hK0 : rK cn cl (sg_i (ss_i u 0 0) 3) (sg_a (ss_i u 0 0) 2) := by simp (decide := true) only [sx_il, sx_ia, sx_ib, sy_i, sz_i, sx_li, sx_la, sx_lb, sy_l, sz_l, sx_ai, sx_al, sx_ab, sy_a, sz_a, sx_bi, sx_bl, sx_ba, sy_b, sz_b]; exact hK
    generalize hP : (fun r2 s1 => post r2 (ss_i s1 3 0)) = P
    have hPe : ∀ r z, P r z = post r (ss_i z 3 0) := fun r z => by rw [← hP]
    have copy : (¬ ∃ w, w < n ∧ sameW cn cl len lt w) → ∃ m, wp_M_enter_58_f P m (nI s) (nI 0) (ss_i u 0 0) := by
      intro hno
      suffices ∀ t p, p + t = cn → ∃ m, wp_M_enter_58_f P m (nI s) (nI p) (ss_a (ss_i u 0 0) 4 (mkf (fun p => n * 6 + p) (fun p => nI (cl p)) p (sg_a u 4))) by
        obtain ⟨m, hm⟩ := this cn 0 (Nat.zero_add cn)
        refine ⟨m, ?_⟩
        have e : ss_a (ss_i u 0 0) 4 (mkf (fun p => n * 6 + p) (fun p => nI (cl p)) 0 (sg_a u 4)) = ss_i u 0 0 := ss_a_id (ss_i u 0 0) 4
        rw [e] at hm
        exact hm
      intro t
      induction t with
      | zero =>
        intro p hp
        have e : p = cn := by omega
        subst e
        refine ⟨1, ?_⟩
        show wp_M_enter_58 P _ _ _ _
        unfold wp_M_enter_58
        simp (decide := true) only [sx_il, sx_ia, sx_ib, sy_i, sz_i, sx_li, sx_la, sx_lb, sy_l, sz_l, sx_ai, sx_al, sx_ab, sy_a, sz_a, sx_bi, sx_bl, sx_ba, sy_b, sz_b]
        rw [e5, e4]
        refine pk_le p p (fun _ v10 e10 => ⟨pk_in n 80 qn, pk_in n 80 qn, fun v11 e11 => ?_⟩) (fun z => absurd z (by omega))
        rw [e10, e11, nI_1, nI_pred, nI_clamp (n := n) (by omega), hPe]
        have hW2 := rW_add (s := s) (cl := cl) (g13 := mkf (fun p => n * 6 + p) (fun p => nI (cl p)) p (sg_a u 4)) hW qn q2 k6 hs (fun q hq => ⟨mkf_in (g := fun p => n * 6 + p) (v := fun p => nI (cl p)) (fun a b z => by simpa using z) hq, (kc q hq).2⟩) (fun i hi => mkf_out (fun q hq => by show i ≠ n * 6 + q; omega))
        have hp := h1 s hs rfl q2 qn hno _ _ _ hW2
        unfold stWM at hp
        simp (decide := true) only [sx_il, sx_ia, sx_ib, sy_i, sz_i, sx_li, sx_la, sx_lb, sy_l, sz_l, sx_ai, sx_al, sx_ab, sy_a, sz_a, sx_bi, sx_bl, sx_ba, sy_b, sz_b, so_i, so_l, so_a, so_b, sci_0_1, sci_0_2, sci_1_2, sci_0_3, sci_1_3, sci_2_3, sci_0_4, sci_1_4, sci_2_4, sci_3_4, sci_0_5, sci_1_5, sci_2_5, sci_3_5, sci_4_5, sci_0_6, sci_1_6, sci_2_6, sci_3_6, sci_4_6, sci_5_6, sci_0_7, sci_1_7, sci_2_7, sci_3_7, sci_4_7, sci_5_7, sci_6_7, sci_0_8, sci_1_8, sci_2_8, sci_3_8, sci_4_8, sci_5_8, sci_6_8, sci_7_8, sci_0_9, sci_1_9, sci_2_9, sci_3_9, sci_4_9, sci_5_9, sci_6_9, sci_7_9, sci_8_9, sci_0_10, sci_1_10, sci_2_10, sci_3_10, sci_4_10, sci_5_10, sci_6_10, sci_7_10, sci_8_10, sci_9_10, sci_0_11, sci_1_11, sci_2_11, sci_3_11, sci_4_11, sci_5_11, sci_6_11, sci_7_11, sci_8_11, sci_9_11, sci_10_11, sci_0_12, sci_1_12, sci_2_12, sci_3_12, sci_4_12, sci_5_12, sci_6_12, sci_7_12, sci_8_12, sci_9_12, sci_10_12, sci_11_12, scl_0_1, sca_0_1, sca_0_2, sca_1_2, sca_0_3, sca_1_3, sca_2_3, sca_0_4, sca_1_4, sca_2_4, sca_3_4, sca_0_5, sca_1_5, sca_2_5, sca_3_5, sca_4_5, sca_0_6, sca_1_6, sca_2_6, sca_3_6, sca_4_6, sca_5_6, sca_0_7, sca_1_7, sca_2_7, sca_3_7, sca_4_7, sca_5_7, sca_6_7, sca_0_8, sca_1_8, sca_2_8, sca_3_8, sca_4_8, sca_5_8, sca_6_8, sca_7_8, sca_0_9, sca_1_9, sca_2_9, sca_3_9, sca_4_9, sca_5_9, sca_6_9, sca_7_9, sca_8_9, sca_0_10, sca_1_10, sca_2_10, sca_3_10, sca_4_10, sca_5_10, sca_6_10, sca_7_10, sca_8_10, sca_9_10, sca_0_11, sca_1_11, sca_2_11, sca_3_11, sca_4_11, sca_5_11, sca_6_11, sca_7_11, sca_8_11, sca_9_11, sca_10_11, sca_0_12, sca_1_12, sca_2_12, sca_3_12, sca_4_12, sca_5_12, sca_6_12, sca_7_12, sca_8_12, sca_9_12, sca_10_12, sca_11_12, sca_0_13, sca_1_13, sca_2_13, sca_3_13, sca_4_13, sca_5_13, sca_6_13, sca_7_13, sca_8_13, sca_9_13, sca_10_13, sca_11_13, sca_12_13, sca_0_14, sca_1_14, sca_2_14, sca_3_14, sca_4_14, sca_5_14, sca_6_14, sca_7_14, sca_8_14, sca_9_14, sca_10_14, sca_11_14, sca_12_14, sca_13_14, sca_0_15, sca_1_15, sca_2_15, sca_3_15, sca_4_15, sca_5_15, sca_6_15, sca_7_15, sca_8_15, sca_9_15, sca_10_15, sca_11_15, sca_12_15, sca_13_15, sca_14_15, sca_0_16, sca_1_16, sca_2_16, sca_3_16, sca_4_16, sca_5_16, sca_6_16, sca_7_16, sca_8_16, sca_9_16, sca_10_16, sca_11_16, sca_12_16, sca_13_16, sca_14_16, sca_15_16, sca_0_17, sca_1_17, sca_2_17, sca_3_17, sca_4_17, sca_5_17, sca_6_17, sca_7_17, sca_8_17, sca_9_17, sca_10_17, sca_11_17, sca_12_17, sca_13_17, sca_14_17, sca_15_17, sca_16_17, scb_0_1, scb_0_2, scb_1_2, scb_0_3, scb_1_3, scb_2_3, scb_0_4, scb_1_4, scb_2_4, scb_3_4, scb_0_5, scb_1_5, scb_2_5, scb_3_5, scb_4_5, sd_li, sd_ai, sd_bi, sd_al, sd_bl, sd_ba]
        exact hp
      | succ t ih =>
        intro p hp
        obtain ⟨m, hm⟩ := ih (p + 1) (by omega)
        refine ⟨m + 1, ?_⟩
        show wp_M_enter_58 P _ _ _ _
        unfold wp_M_enter_58
        simp (decide := true) only [sx_il, sx_ia, sx_ib, sy_i, sz_i, sx_li, sx_la, sx_lb, sy_l, sz_l, sx_ai, sx_al, sx_ab, sy_a, sz_a, sx_bi, sx_bl, sx_ba, sy_b, sz_b]
        have ei : 6 * nI n + nI p = nI (n * 6 + p) := by rw [show (6 : Int32) = nI 6 from rfl, pk_mul, nI_add, Nat.mul_comm]
        rw [e5, e4, ei, nI_clamp (n := n * 6 + p) (by omega), nI_clamp (n := p) (by omega), (kc p (by omega)).1, nI_1 p]
        refine pk_le cn p (fun z => absurd z (by omega)) (fun _ => ⟨pk_in p 6 (by omega), fun v ev => ⟨pk_in (n * 6 + p) 480 (by omega), ?_⟩⟩)
        rw [ev, so_a]
        exact hm
    suffices ∀ t w, w + t = n → (∀ v, v < w → ¬ sameW cn cl len lt v) → ∃ m, wp_M_enter_32_f P m (nI s) (nI w) (ss_i u 0 0) from this n 0 (Nat.zero_add n) (fun q z => absurd z (Nat.not_lt_zero q))
    intro t
    induction t with
    | zero =>
      intro w hw hno
      refine ⟨1, ?_⟩
      show wp_M_enter_32 P _ _ _ _
      unfold wp_M_enter_32
      simp (decide := true) only [sx_il, sx_ia, sx_ib, sy_i, sz_i, sx_li, sx_la, sx_lb, sy_l, sz_l, sx_ai, sx_al, sx_ab, sy_a, sz_a, sx_bi, sx_bl, sx_ba, sy_b, sz_b]
      rw [e4]
      exact pk_le n w (fun _ => copy (by rintro ⟨v, z1, z2⟩; exact hno v (by omega) z2)) (fun z => absurd z (by omega))
    | succ t ih =>
      intro w hw hno
      by_cases q : sameW cn cl len lt w
      · refine ⟨1, ?_⟩
        show wp_M_enter_32 P _ _ _ _
        unfold wp_M_enter_32
        simp (decide := true) only [sx_il, sx_ia, sx_ib, sy_i, sz_i, sx_li, sx_la, sx_lb, sy_l, sz_l, sx_ai, sx_al, sx_ab, sy_a, sz_a, sx_bi, sx_bl, sx_ba, sy_b, sz_b]
        rw [e4]
        refine pk_le n w (fun z => absurd z (by omega)) (fun _ => sp_M_isRow hW0 hK0 (by omega) (fun _ => ⟨fun z => absurd z (by decide), fun _ => ?_⟩) (fun z => absurd q z))
        rw [hPe]
        exact h0 (fun z => z.2.2.2 ⟨w, by omega, q⟩)
      · obtain ⟨m, hm⟩ := ih (w + 1) (by omega) (fun v z => by
          by_cases z2 : v = w
          · rw [z2]; exact q
          · exact hno v (by omega))
        refine ⟨m + 1, ?_⟩
        show wp_M_enter_32 P _ _ _ _
        unfold wp_M_enter_32
        simp (decide := true) only [sx_il, sx_ia, sx_ib, sy_i, sz_i, sx_li, sx_la, sx_lb, sy_l, sz_l, sx_ai, sx_al, sx_ab, sy_a, sz_a, sx_bi, sx_bl, sx_ba, sy_b, sz_b]
        rw [e4, nI_1]
        exact pk_le n w (fun z => absurd z (by omega)) (fun _ => sp_M_isRow hW0 hK0 (by omega) (fun z => absurd z q) (fun _ => ⟨fun _ => hm, fun z => absurd rfl z⟩))
