def snC (W H : Nat) (bl : Nat → Nat) (c : Nat) (sn : Nat → Nat) : Prop := ∀ b, b < W * H → (sn b = 1 ↔ bl b = 0 ∧ ∃ d, d < c ∧ bl d = 0 ∧ con W H bl d b)
theorem parts_flood {W H : Nat} {bl : Nat → Nat} {u : zz_St} {post : Int32 → zz_St → Prop} {kn30 : Int32 → Int32 → zz_St → Prop} {n c : Nat} (hG : rG W H bl (sg_i u 1) (sg_i u 2) (sg_a u 0)) (hcN : c < W * H)
    (hx : ∀ sn f, snr sn f → snC W H bl (c + 1) sn → kn30 (nI n) (nI (c + 1)) (ss_a u 17 f)) :
    ∀ t sn f, unS (W * H) sn ≤ t → snr sn f → (∀ b, b < W * H → sn b = 1 → alw W H bl c b) → (∀ d, d ≤ c → bl d = 0 → sn d = 1) → wp_M_parts_76_f post kn30 (t + 2) (nI n) (nI c) 1 (ss_a u 17 f) := by
  obtain ⟨w1, w2, w3, w4, ew, eh, hb⟩ := id hG
  have h36 := WH_le w2 w4
  intro t
  induction t with
  | zero =>
    intro sn f hu hs hA hin
    show wp_M_parts_76 post kn30 (wp_M_parts_76_f post kn30 1) _ _ _ _
    unfold wp_M_parts_76
    refine ⟨fun z => absurd z (by decide), fun _ => ⟨W * H + 1, ?_⟩⟩
    refine parts_pass (sn0 := sn) hG (fun m sn' f' hs' hp => ?_) (W * H) 0 0 sn f (Nat.zero_add _) hs ⟨hA, fun _ e => e, Or.inl ⟨rfl, rfl, fun x y _ _ z => absurd z (Nat.not_lt_zero _)⟩⟩
    rcases hp.2.2 with ⟨rfl, p2, p3⟩ | ⟨rfl, p⟩
    · show wp_M_parts_76 post kn30 (wp_M_parts_76_f post kn30 0) _ _ _ _
      unfold wp_M_parts_76 wp_M_parts_232
      rw [nI_1]
      refine ⟨fun _ => hx sn' f' hs' (fun b hbN => ⟨fun e => ?_, fun e => ?_⟩), fun z => absurd rfl z⟩
      · obtain ⟨q1, d, q2, q3⟩ := hp.1 b hbN e
        exact ⟨q1, d, by omega, q3⟩
      · obtain ⟨q1, d, q2, q3, q4⟩ := e
        have := q4 (fun z => sn' z = 1) (fun p q hpq => nbr_closed (fun b hb => (hs' b (by omega)).2) (fun x y z1 z2 => p3 x y z1 z2 (cell_lt z1 z2)) hpq)
        exact this.mp (hp.2.1 d (hin d (by omega) q3))
    · omega
  | succ t ih =>
    intro sn f hu hs hA hin
    show wp_M_parts_76 post kn30 (wp_M_parts_76_f post kn30 (t + 2)) _ _ _ _
    unfold wp_M_parts_76
    refine ⟨fun z => absurd z (by decide), fun _ => ⟨W * H + 1, ?_⟩⟩
    refine parts_pass (sn0 := sn) hG (fun m sn' f' hs' hp => ?_) (W * H) 0 0 sn f (Nat.zero_add _) hs ⟨hA, fun _ e => e, Or.inl ⟨rfl, rfl, fun x y _ _ z => absurd z (Nat.not_lt_zero _)⟩⟩
    rcases hp.2.2 with ⟨rfl, p2, p3⟩ | ⟨rfl, p⟩
    · show wp_M_parts_76 post kn30 (wp_M_parts_76_f post kn30 (t + 1)) _ _ _ _
      unfold wp_M_parts_76 wp_M_parts_232
      rw [nI_1]
      refine ⟨fun _ => hx sn' f' hs' (fun b hbN => ⟨fun e => ?_, fun e => ?_⟩), fun z => absurd rfl z⟩
      · obtain ⟨q1, d, q2, q3⟩ := hp.1 b hbN e
        exact ⟨q1, d, by omega, q3⟩
      · obtain ⟨q1, d, q2, q3, q4⟩ := e
        have := q4 (fun z => sn' z = 1) (fun p q hpq => nbr_closed (fun b hb => (hs' b (by omega)).2) (fun x y z1 z2 => p3 x y z1 z2 (cell_lt z1 z2)) hpq)
        exact this.mp (hp.2.1 d (hin d (by omega) q3))
    · exact ih sn' f' (by omega) hs' hp.1 (fun d q1 q2 => hp.2.1 d (hin d q1 q2))
theorem sp_M_parts {W H : Nat} {bl : Nat → Nat} {u : zz_St} {post : Int32 → zz_St → Prop} (hG : rG W H bl (sg_i u 1) (sg_i u 2) (sg_a u 0)) (h : ∀ f, post (nI (nparts W H bl)) (ss_a (ss_i u 0 0) 17 f)) : wp_M_parts u post := by
  obtain ⟨w1, w2, w3, w4, ew, eh, hb⟩ := id hG
  have h36 := WH_le w2 w4
  have hG' : rG W H bl (sg_i (ss_i u 0 0) 1) (sg_i (ss_i u 0 0) 2) (sg_a (ss_i u 0 0) 0) := by simp (decide := true) only [sx_il, sx_ia, sx_ib, sy_i, sz_i, sx_li, sx_la, sx_lb, sy_l, sz_l, sx_ai, sx_al, sx_ab, sy_a, sz_a, sx_bi, sx_bl, sx_ba, sy_b, sz_b]; exact hG
  have ew' : sg_i (ss_i u 0 0) 1 = nI W := by simp (decide := true) only [sx_il, sx_ia, sx_ib, sy_i, sz_i, sx_li, sx_la, sx_lb, sy_l, sz_l, sx_ai, sx_al, sx_ab, sy_a, sz_a, sx_bi, sx_bl, sx_ba, sy_b, sz_b]; exact ew
  have eh' : sg_i (ss_i u 0 0) 2 = nI H := by simp (decide := true) only [sx_il, sx_ia, sx_ib, sy_i, sz_i, sx_li, sx_la, sx_lb, sy_l, sz_l, sx_ai, sx_al, sx_ab, sy_a, sz_a, sx_bi, sx_bl, sx_ba, sy_b, sz_b]; exact eh
  have hb' : ∀ c, c < 36 → sg_a (ss_i u 0 0) 0 c = nI (bl c) ∧ bl c ≤ 1 := by simp (decide := true) only [sx_il, sx_ia, sx_ib, sy_i, sz_i, sx_li, sx_la, sx_lb, sy_l, sz_l, sx_ai, sx_al, sx_ab, sy_a, sz_a, sx_bi, sx_bl, sx_ba, sy_b, sz_b]; exact hb
  unfold wp_M_parts
  generalize ss_i u 0 0 = v at *
  have seeds : ∀ t c sn f, c + t = W * H → snr sn f → snC W H bl c sn → wp_M_parts_30_f post (t + 1) (nI (cntB c (fun c => pB (bl c = 0 ∧ ∀ d, d < c → bl d = 0 → ¬ con W H bl d c)))) (nI c) (ss_a v 17 f) := by
    intro t
    induction t with
    | zero =>
      intro c sn f hc hs hC
      show wp_M_parts_30 post _ _ _ _
      unfold wp_M_parts_30
      simp (decide := true) only [sx_il, sx_ia, sx_ib, sy_i, sz_i, sx_li, sx_la, sx_lb, sy_l, sz_l, sx_ai, sx_al, sx_ab, sy_a, sz_a, sx_bi, sx_bl, sx_ba, sy_b, sz_b]
      rw [ew', eh', pk_mul]
      have e : c = W * H := by omega
      subst e
      exact pk_le (W * H) (W * H) (fun _ => h f) (fun z => absurd z (by omega))
    | succ t ih =>
      intro c sn f hc hs hC
      show wp_M_parts_30 post _ _ _ _
      have hc36 : c < 36 := by omega
      have hbc := hb' c hc36
      have hsc := hs c hc36
      have skip : (bl c = 0 → sn c = 1) → wp_M_parts_232 post (wp_M_parts_30_f post (t + 1)) (nI (cntB c (fun c => pB (bl c = 0 ∧ ∀ d, d < c → bl d = 0 → ¬ con W H bl d c)))) (nI c) (ss_a v 17 f) := fun q => by
        unfold wp_M_parts_232
        rw [nI_1]
        have z := ih (c + 1) sn f (by omega) hs (fun b hbN => ?_)
        · rw [cntB, if_neg, Nat.zero_add] at z
          · exact z
          · rw [pB_iff]
            rintro ⟨z1, z2⟩
            obtain ⟨q1, d, q2, q3, q4⟩ := (hC c (by omega)).mp (q z1)
            exact z2 d q2 q3 q4
        · rw [hC b hbN]
          constructor
          · rintro ⟨q1, d, q2, q3⟩
            exact ⟨q1, d, by omega, q3⟩
          · rintro ⟨q1, d, q2, q3, q4⟩
            by_cases e : d = c
            · subst e
              obtain ⟨r1, d', r2, r3, r4⟩ := (hC d (by omega)).mp (q q3)
              exact ⟨q1, d', r2, r3, con_trans r4 q4⟩
            · exact ⟨q1, d, by omega, q3, q4⟩
      unfold wp_M_parts_30
      simp (decide := true) only [sx_il, sx_ia, sx_ib, sy_i, sz_i, sx_li, sx_la, sx_lb, sy_l, sz_l, sx_ai, sx_al, sx_ab, sy_a, sz_a, sx_bi, sx_bl, sx_ba, sy_b, sz_b]
      rw [ew', eh', pk_mul, nI_clamp (n := c) (by omega), hbc.1, hsc.1]
      refine pk_le (W * H) c (fun z => absurd z (by omega)) (fun _ => ⟨vin hc36, ?_⟩)
      refine pk_eq (bl c) 0 (fun o => ⟨vin hc36, ?_⟩) (fun o => skip (fun z => absurd z o))
      refine pk_eq (sn c) 0 (fun s0 => ⟨vin hc36, ⟨unS (W * H) (fun b => if b = c then 1 else sn b) + 2, ?_⟩⟩) (fun s0 => skip (fun _ => by omega))
      rw [nI_1, so_a]
      refine parts_flood hG' (by omega) (fun sn' f' hs' hC' => ?_) _ (fun b => if b = c then 1 else sn b) (upd f c (nI 1)) (Nat.le_refl _) (snr_upd hs (by omega)) (fun b hbN => ?_) (fun d hd od => ?_)
      · have z := ih (c + 1) sn' f' (by omega) hs' hC'
        rw [cntB, if_pos, Nat.add_comm 1] at z
        · exact z
        · rw [pB_iff]
          refine ⟨o, fun d hd od hcon => ?_⟩
          have := (hC c (by omega)).mpr ⟨o, d, hd, od, hcon⟩
          omega
      · show (if b = c then 1 else sn b) = 1 → _
        intro e
        by_cases eb : b = c
        · rw [eb]
          exact ⟨o, c, Nat.le_refl c, o, con_refl c⟩
        · rw [if_neg eb] at e
          obtain ⟨q1, d, q2, q3⟩ := (hC b hbN).mp e
          exact ⟨q1, d, by omega, q3⟩
      · show (if d = c then 1 else sn d) = 1
        by_cases e : d = c
        · rw [if_pos e]
        · rw [if_neg e]
          exact (hC d (by omega)).mpr ⟨od, d, by omega, od, con_refl d⟩
  refine ⟨37, ?_⟩
  suffices ∀ t n f, n + t = 36 → (∀ c, c < n → f c = 0) → wp_M_parts_7_f post (t + 1) (nI n) (ss_a v 17 f) from by
    have q := this 36 0 (sg_a v 17) rfl (fun c hc => absurd hc (Nat.not_lt_zero c))
    rw [ss_a_id] at q
    exact q
  intro t
  induction t with
  | zero =>
    intro n f hn hf
    show wp_M_parts_7 post _ _ _
    unfold wp_M_parts_7
    refine pk_le 36 n (fun _ => ⟨W * H + 1, ?_⟩) (fun z => absurd z (by omega))
    refine seeds (W * H) 0 (fun _ => 0) f (Nat.zero_add _) (fun c hc => ⟨hf c (by omega), Nat.zero_le 1⟩) (fun b hbN => ⟨fun e => absurd (show (0 : Nat) = 1 from e) (by decide), fun e => ?_⟩)
    obtain ⟨-, d, q, -⟩ := e
    exact absurd q (Nat.not_lt_zero d)
  | succ t ih =>
    intro n f hn hf
    show wp_M_parts_7 post _ _ _
    unfold wp_M_parts_7
    simp (decide := true) only [sx_il, sx_ia, sx_ib, sy_i, sz_i, sx_li, sx_la, sx_lb, sy_l, sz_l, sx_ai, sx_al, sx_ab, sy_a, sz_a, sx_bi, sx_bl, sx_ba, sy_b, sz_b]
    rw [nI_clamp (n := n) (by omega), nI_1, so_a]
    refine pk_le 36 n (fun z => absurd z (by omega)) (fun _ => ⟨vin (by omega), ih (n + 1) _ (by omega) (fun c hc => ?_)⟩)
    by_cases e : c = n
    · rw [e, pk_us]
    · rw [pk_un e]; exact hf c (by omega)
