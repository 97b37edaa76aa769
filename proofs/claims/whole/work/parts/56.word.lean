def sameW (cn : Nat) (cl : Nat → Nat) (len : Nat → Nat) (lt : Nat → Nat → Nat) (w : Nat) : Prop := len w = cn ∧ ∀ p, p < cn → lt w p = cl p
theorem sp_L_isCollected {n : Nat} {len : Nat → Nat} {lt : Nat → Nat → Nat} {sc : Nat → Nat} {cn : Nat} {cl : Nat → Nat} {u : zz_St} {post : Int32 → zz_St → Prop} {w : Nat} (hW : rW n len lt sc (sg_i u 4) (sg_a u 9) (sg_a u 10) (sg_a u 13)) (hK : rK cn cl (sg_i u 5) (sg_a u 14)) (hw : w < n)
    (h1 : sameW cn cl len lt w → post 1 u) (h0 : ¬ sameW cn cl len lt w → post 0 u) : wp_L_isCollected (nI w) u post := by
  obtain ⟨hn, e4, hwd⟩ := hW
  obtain ⟨k6, e5, kc⟩ := hK
  obtain ⟨l2, l6, ls, e9, e10, elt⟩ := hwd w hw
  unfold wp_L_isCollected
  rw [nI_clamp (n := w) (by omega), e9, e5]
  refine ⟨pk_in w 80 (by omega), pk_eq (len w) cn (fun e => ?_) (fun e => h0 (fun q => e q.1))⟩
  suffices ∀ t p, p + t = cn → (∀ q, q < p → lt w q = cl q) → ∃ m, wp_L_isCollected_17_f post m (nI w) (nI p) u from this cn 0 (Nat.zero_add cn) (fun q z => absurd z (Nat.not_lt_zero q))
  intro t
  induction t with
  | zero =>
    intro p hp hs
    refine ⟨1, ?_⟩
    show wp_L_isCollected_17 post _ _ _ _
    unfold wp_L_isCollected_17
    rw [e5]
    exact pk_le cn p (fun _ => h1 ⟨e, fun q z => hs q (by omega)⟩) (fun z => absurd z (by omega))
  | succ t ih =>
    intro p hp hs
    obtain ⟨el, -, -⟩ := elt p (by omega)
    obtain ⟨ec, -, -⟩ := kc p (by omega)
    have ei : nI w * 6 + nI p = nI (w * 6 + p) := by rw [show (6 : Int32) = nI 6 from rfl, pk_mul, nI_add]
    have b1 := (elt p (by omega)).2
    have b2 := (kc p (by omega)).2
    by_cases q : lt w p = cl p
    · obtain ⟨m, hm⟩ := ih (p + 1) (by omega) (fun q' z => by
        by_cases z2 : q' = p
        · rw [z2]; exact q
        · exact hs q' (by omega))
      refine ⟨m + 1, ?_⟩
      show wp_L_isCollected_17 post _ _ _ _
      unfold wp_L_isCollected_17 wp_L_letterOf
      dsimp only
      rw [e5, ei, nI_clamp (n := w * 6 + p) (by omega), el, nI_clamp (n := p) (by omega), ec, nI_1]
      exact pk_le cn p (fun z => absurd z (by omega)) (fun _ => ⟨pk_in (w * 6 + p) 480 (by omega), pk_in p 6 (by omega), pk_eq (lt w p) (cl p) (fun _ => hm) (fun z => absurd q z)⟩)
    · refine ⟨1, ?_⟩
      show wp_L_isCollected_17 post _ _ _ _
      unfold wp_L_isCollected_17 wp_L_letterOf
      dsimp only
      rw [e5, ei, nI_clamp (n := w * 6 + p) (by omega), el, nI_clamp (n := p) (by omega), ec]
      exact pk_le cn p (fun z => absurd z (by omega)) (fun _ => ⟨pk_in (w * 6 + p) 480 (by omega), pk_in p 6 (by omega), pk_eq (lt w p) (cl p) (fun z => absurd z q) (fun _ => h0 (fun z => q (z.2 p (by omega))))⟩)
theorem sp_L_isThere {n : Nat} {len : Nat → Nat} {lt : Nat → Nat → Nat} {sc : Nat → Nat} {cn : Nat} {cl : Nat → Nat} {u : zz_St} {post : Int32 → zz_St → Prop} (hW : rW n len lt sc (sg_i u 4) (sg_a u 9) (sg_a u 10) (sg_a u 13)) (hK : rK cn cl (sg_i u 5) (sg_a u 14))
    (h1 : (∃ w, w < n ∧ sameW cn cl len lt w) → post 1 u) (h0 : (¬ ∃ w, w < n ∧ sameW cn cl len lt w) → post 0 u) : wp_L_isThere u post := by
  obtain ⟨hn, e4, hwd⟩ := id hW
  suffices ∀ t w, w + t = n → (∀ v, v < w → ¬ sameW cn cl len lt v) → ∃ m, wp_L_isThere_2_f post m (nI w) u from this n 0 (Nat.zero_add n) (fun q z => absurd z (Nat.not_lt_zero q))
  intro t
  induction t with
  | zero =>
    intro w hw hs
    refine ⟨1, ?_⟩
    show wp_L_isThere_2 post _ _ _
    unfold wp_L_isThere_2
    rw [e4]
    exact pk_le n w (fun _ => h0 (by rintro ⟨v, z1, z2⟩; exact hs v (by omega) z2)) (fun z => absurd z (by omega))
  | succ t ih =>
    intro w hw hs
    by_cases q : sameW cn cl len lt w
    · refine ⟨1, ?_⟩
      show wp_L_isThere_2 post _ _ _
      unfold wp_L_isThere_2
      rw [e4]
      exact pk_le n w (fun z => absurd z (by omega)) (fun _ => sp_L_isCollected hW hK (by omega) (fun _ => ⟨fun z => absurd z (by decide), fun _ => h1 ⟨w, by omega, q⟩⟩) (fun z => absurd q z))
    · obtain ⟨m, hm⟩ := ih (w + 1) (by omega) (fun v z => by
        by_cases z2 : v = w
        · rw [z2]; exact q
        · exact hs v (by omega))
      refine ⟨m + 1, ?_⟩
      show wp_L_isThere_2 post _ _ _
      unfold wp_L_isThere_2
      rw [e4, nI_1]
      exact pk_le n w (fun z => absurd z (by omega)) (fun _ => sp_L_isCollected hW hK (by omega) (fun z => absurd z q) (fun _ => ⟨fun _ => hm, fun z => absurd rfl z⟩))
def len' (n cn : Nat) (len : Nat → Nat) : Nat → Nat := fun w => if w = n then cn else len w
def lt' (n : Nat) (cl : Nat → Nat) (lt : Nat → Nat → Nat) : Nat → Nat → Nat := fun w p => if w = n then cl p else lt w p
def sc' (n s : Nat) (sc : Nat → Nat) : Nat → Nat := fun w => if w = n then s else sc w
theorem rW_add {n : Nat} {len : Nat → Nat} {lt : Nat → Nat → Nat} {sc : Nat → Nat} {cn s : Nat} {cl : Nat → Nat} {i4 : Int32} {f9 f10 f13 g13 : Nat → Int32} (hW : rW n len lt sc i4 f9 f10 f13) (hn : n < 80) (h2 : 2 ≤ cn) (h6 : cn ≤ 6) (hs : s ≤ 1000) (hc : ∀ p, p < cn → g13 (n * 6 + p) = nI (cl p) ∧ 97 ≤ cl p ∧ cl p ≤ 122) (ho : ∀ i, i < n * 6 → g13 i = f13 i) : rW (n + 1) (len' n cn len) (lt' n cl lt) (sc' n s sc) (nI (n + 1)) (upd f9 n (nI cn)) (upd f10 n (nI s)) g13 := by
  refine ⟨by omega, rfl, fun w hw => ?_⟩
  by_cases e : w = n
  · subst e
    simp only [len', lt', sc', upd, if_true]
    exact ⟨h2, h6, hs, trivial, trivial, hc⟩
  · obtain ⟨l2, l6, ls, e9, e10, elt⟩ := hW.2.2 w (by omega)
    simp only [len', lt', sc', upd, if_neg e]
    refine ⟨l2, l6, ls, e9, e10, fun p hp => ?_⟩
    rw [ho _ (by omega)]
    exact elt p hp
def rQ (n : Nat) (len : Nat → Nat) (lt : Nat → Nat → Nat) (sc : Nat → Nat) (f11 f12 : Nat → Int32) (g0 g1 g2 g3 : Nat → Int64) : Prop := (∀ r a : Nat, (ordW sc n)[r]? = some a → f11 r = nI a) ∧ rnkI (ordW sc n) n f12 ∧ setL (ordW sc n) len n g0 g1 ∧ setK (ordW sc n) len lt n 0 g2 g3
def stW (u : zz_St) (n : Nat) (f9 f10 f11 f12 f13 : Nat → Int32) (g0 g1 g2 g3 : Nat → Int64) : zz_St := ss_b (ss_b (ss_b (ss_b (ss_a (ss_a (ss_a (ss_a (ss_a (ss_i (ss_i u 4 (nI n)) 5 0) 9 f9) 10 f10) 11 f11) 12 f12) 13 f13) 0 g0) 1 g1) 2 g2) 3 g3
theorem sp_X_word {n : Nat} {len : Nat → Nat} {lt : Nat → Nat → Nat} {sc : Nat → Nat} {cn : Nat} {cl : Nat → Nat} {a0 : Int32} {u : zz_St} {post : Int32 → zz_St → Prop} (hW : rW n len lt sc (sg_i u 4) (sg_a u 9) (sg_a u 10) (sg_a u 13)) (hQ : rQ n len lt sc (sg_a u 11) (sg_a u 12) (sg_b u 0) (sg_b u 1) (sg_b u 2) (sg_b u 3)) (hK : rK cn cl (sg_i u 5) (sg_a u 14))
    (h1 : ∀ s : Nat, s ≤ 1000 → a0 = nI s → 2 ≤ cn → n < 80 → (¬ ∃ w, w < n ∧ sameW cn cl len lt w) → ∀ f9 f10 f11 f12 f13 g0 g1 g2 g3, rW (n + 1) (len' n cn len) (lt' n cl lt) (sc' n s sc) (nI (n + 1)) f9 f10 f13 → rQ (n + 1) (len' n cn len) (lt' n cl lt) (sc' n s sc) f11 f12 g0 g1 g2 g3 → post (nI n) (stW u (n + 1) f9 f10 f11 f12 f13 g0 g1 g2 g3))
    (h0 : ¬ (2 ≤ cn ∧ (∃ s : Nat, s ≤ 1000 ∧ a0 = nI s) ∧ n < 80 ∧ ¬ ∃ w, w < n ∧ sameW cn cl len lt w) → post (-1) (ss_i u 5 0)) : wp_X_word a0 u post := by
  obtain ⟨hn, e4, hwd⟩ := id hW
  obtain ⟨k6, e5, kc⟩ := id hK
  unfold wp_X_word wp_L_wordFromCollected wp_L_dropCollected
  rw [e5, e4]
  refine pk_lt cn 2 (fun q => h0 (fun z => by omega)) (fun q2 => ?_)
  refine ⟨fun q => h0 ?_, fun q0 => ⟨fun q => h0 ?_, fun q1 => ?_⟩⟩
  · rintro ⟨-, ⟨s, z1, z2⟩, -⟩
    rw [z2] at q
    exact nI_pos (by omega) q
  · rintro ⟨-, ⟨s, z1, z2⟩, -⟩
    rw [z2] at q
    exact absurd ((nI_ltI (a := 1000) (b := s) (by omega) (by omega)).mp q) (by omega)
  · obtain ⟨s, hs31, rfl⟩ := nI_of q0
    have hs : s ≤ 1000 := by
      have := (not_congr (nI_ltI (a := 1000) (b := s) (by omega) hs31)).mp q1
      omega
    refine pk_le 80 n (fun q => h0 (fun z => by omega)) (fun qn => ?_)
    refine sp_L_isThere hW hK (fun q => ⟨fun z => absurd z (by decide), fun _ => h0 (fun z => z.2.2.2 q)⟩) (fun q => ⟨fun _ v8 e8 v9 e9 => ?_, fun z => absurd rfl z⟩)
    rw [e4] at e8
    rw [e5] at e9
    subst e8; subst e9
    have e6 : nI n * 6 = nI (n * 6) := by rw [show (6 : Int32) = nI 6 from rfl, pk_mul]
    rw [e5, e6, nI_clamp (n := n) (by omega), nI_clamp (n := cn) (by omega), nI_clamp (n := n * 6) (by omega), show (0 : Int32).toNatClampNeg = 0 from rfl]
    refine ⟨pk_in n 80 qn, pk_in n 80 qn, by decide, nI_pos (by omega), nI_pos (by omega), by omega, by omega, ?_⟩
    have hsc : ∀ a, a < n → sc' n s sc a = sc a := fun a ha => if_neg (by omega)
    have ho : ordW (sc' n s sc) n = ordW sc n := ordW_congr hsc
    have hW2 := rW_add (s := s) (cl := cl) (g13 := va_cpy (sg_a u 14) (sg_a u 13) 0 (n * 6) cn) hW qn q2 k6 hs (fun p hp => by
      rw [pk_cpy_in (by omega) (by omega), show 0 + (n * 6 + p - n * 6) = p by omega]
      exact kc p hp) (fun i hi => pk_cpy_out (by omega))
    refine sp_L_rank (sc := sc' n s sc) qn (fun w hw => ?_) (fun r a ha => ?_) (fun A hA => ?_)
    · simp (decide := true) only [sx_il, sx_ia, sx_ib, sy_i, sz_i, sx_li, sx_la, sx_lb, sy_l, sz_l, sx_ai, sx_al, sx_ab, sy_a, sz_a, sx_bi, sx_bl, sx_ba, sy_b, sz_b]
      by_cases z : w = n
      · subst z
        simp only [upd, sc', if_true]
        exact ⟨trivial, hs⟩
      · obtain ⟨l2, l6, ls, e9, e10, elt⟩ := hwd w (by omega)
        simp only [upd, sc', if_neg z]
        exact ⟨e10, ls⟩
    · simp (decide := true) only [sx_il, sx_ia, sx_ib, sy_i, sz_i, sx_li, sx_la, sx_lb, sy_l, sz_l, sx_ai, sx_al, sx_ab, sy_a, sz_a, sx_bi, sx_bl, sx_ba, sy_b, sz_b]
      rw [ho] at ha
      exact hQ.1 r a ha
    · intro v ev
      have ev2 : v = nI (n + 1) := by
        rw [ev]
        simp (decide := true) only [sx_il, sx_ia, sx_ib, sy_i, sz_i, sx_li, sx_la, sx_lb, sy_l, sz_l, sx_ai, sx_al, sx_ab, sy_a, sz_a, sx_bi, sx_bl, sx_ba, sy_b, sz_b]
        rw [e4, nI_1]
      rw [ev2]
      refine sp_L_sortIntoSets (n := n + 1) (len := len' n cn len) (lt := lt' n cl lt) (sc := sc' n s sc) ⟨by omega, by simp (decide := true) only [sx_il, sx_ia, sx_ib, sy_i, sz_i, sx_li, sx_la, sx_lb, sy_l, sz_l, sx_ai, sx_al, sx_ab, sy_a, sz_a, sx_bi, sx_bl, sx_ba, sy_b, sz_b], fun w hw => ?_, fun r a ha => ?_⟩ (fun f g0 g1 g2 g3 c1 c2 c3 => ?_)
      · simp (decide := true) only [sx_il, sx_ia, sx_ib, sy_i, sz_i, sx_li, sx_la, sx_lb, sy_l, sz_l, sx_ai, sx_al, sx_ab, sy_a, sz_a, sx_bi, sx_bl, sx_ba, sy_b, sz_b]
        obtain ⟨l2, l6, ls, e9, e10, elt⟩ := hW2.2.2 w hw
        exact ⟨l2, l6, e9, elt⟩
      · simp (decide := true) only [sx_il, sx_ia, sx_ib, sy_i, sz_i, sx_li, sx_la, sx_lb, sy_l, sz_l, sx_ai, sx_al, sx_ab, sy_a, sz_a, sx_bi, sx_bl, sx_ba, sy_b, sz_b]
        exact hA r a ha
      · have hp := h1 s hs rfl q2 qn q (upd (sg_a u 9) n (nI cn)) (upd (sg_a u 10) n (nI s)) A f (va_cpy (sg_a u 14) (sg_a u 13) 0 (n * 6) cn) g0 g1 g2 g3 hW2 ⟨hA, c1, c2, c3⟩
        unfold stW at hp
        unfold sts
        simp (decide := true) only [sx_il, sx_ia, sx_ib, sy_i, sz_i, sx_li, sx_la, sx_lb, sy_l, sz_l, sx_ai, sx_al, sx_ab, sy_a, sz_a, sx_bi, sx_bl, sx_ba, sy_b, sz_b, so_i, so_l, so_a, so_b, sci_0_1, sci_0_2, sci_1_2, sci_0_3, sci_1_3, sci_2_3, sci_0_4, sci_1_4, sci_2_4, sci_3_4, sci_0_5, sci_1_5, sci_2_5, sci_3_5, sci_4_5, sci_0_6, sci_1_6, sci_2_6, sci_3_6, sci_4_6, sci_5_6, sci_0_7, sci_1_7, sci_2_7, sci_3_7, sci_4_7, sci_5_7, sci_6_7, sci_0_8, sci_1_8, sci_2_8, sci_3_8, sci_4_8, sci_5_8, sci_6_8, sci_7_8, sci_0_9, sci_1_9, sci_2_9, sci_3_9, sci_4_9, sci_5_9, sci_6_9, sci_7_9, sci_8_9, sci_0_10, sci_1_10, sci_2_10, sci_3_10, sci_4_10, sci_5_10, sci_6_10, sci_7_10, sci_8_10, sci_9_10, sci_0_11, sci_1_11, sci_2_11, sci_3_11, sci_4_11, sci_5_11, sci_6_11, sci_7_11, sci_8_11, sci_9_11, sci_10_11, sci_0_12, sci_1_12, sci_2_12, sci_3_12, sci_4_12, sci_5_12, sci_6_12, sci_7_12, sci_8_12, sci_9_12, sci_10_12, sci_11_12, scl_0_1, sca_0_1, sca_0_2, sca_1_2, sca_0_3, sca_1_3, sca_2_3, sca_0_4, sca_1_4, sca_2_4, sca_3_4, sca_0_5, sca_1_5, sca_2_5, sca_3_5, sca_4_5, sca_0_6, sca_1_6, sca_2_6, sca_3_6, sca_4_6, sca_5_6, sca_0_7, sca_1_7, sca_2_7, sca_3_7, sca_4_7, sca_5_7, sca_6_7, sca_0_8, sca_1_8, sca_2_8, sca_3_8, sca_4_8, sca_5_8, sca_6_8, sca_7_8, sca_0_9, sca_1_9, sca_2_9, sca_3_9, sca_4_9, sca_5_9, sca_6_9, sca_7_9, sca_8_9, sca_0_10, sca_1_10, sca_2_10, sca_3_10, sca_4_10, sca_5_10, sca_6_10, sca_7_10, sca_8_10, sca_9_10, sca_0_11, sca_1_11, sca_2_11, sca_3_11, sca_4_11, sca_5_11, sca_6_11, sca_7_11, sca_8_11, sca_9_11, sca_10_11, sca_0_12, sca_1_12, sca_2_12, sca_3_12, sca_4_12, sca_5_12, sca_6_12, sca_7_12, sca_8_12, sca_9_12, sca_10_12, sca_11_12, sca_0_13, sca_1_13, sca_2_13, sca_3_13, sca_4_13, sca_5_13, sca_6_13, sca_7_13, sca_8_13, sca_9_13, sca_10_13, sca_11_13, sca_12_13, sca_0_14, sca_1_14, sca_2_14, sca_3_14, sca_4_14, sca_5_14, sca_6_14, sca_7_14, sca_8_14, sca_9_14, sca_10_14, sca_11_14, sca_12_14, sca_13_14, sca_0_15, sca_1_15, sca_2_15, sca_3_15, sca_4_15, sca_5_15, sca_6_15, sca_7_15, sca_8_15, sca_9_15, sca_10_15, sca_11_15, sca_12_15, sca_13_15, sca_14_15, sca_0_16, sca_1_16, sca_2_16, sca_3_16, sca_4_16, sca_5_16, sca_6_16, sca_7_16, sca_8_16, sca_9_16, sca_10_16, sca_11_16, sca_12_16, sca_13_16, sca_14_16, sca_15_16, sca_0_17, sca_1_17, sca_2_17, sca_3_17, sca_4_17, sca_5_17, sca_6_17, sca_7_17, sca_8_17, sca_9_17, sca_10_17, sca_11_17, sca_12_17, sca_13_17, sca_14_17, sca_15_17, sca_16_17, scb_0_1, scb_0_2, scb_1_2, scb_0_3, scb_1_3, scb_2_3, scb_0_4, scb_1_4, scb_2_4, scb_3_4, scb_0_5, scb_1_5, scb_2_5, scb_3_5, scb_4_5, sd_li, sd_ai, sd_bi, sd_al, sd_bl, sd_ba]
        exact hp
