theorem parts_beside {W H : Nat} {bl sn : Nat → Nat} {u : zz_St} {x y : Nat} {A B : zz_St → Prop} (hG : rG W H bl (sg_i u 1) (sg_i u 2) (sg_a u 0)) (hs : snr sn (sg_a u 17)) (hx : x < W) (hy : y < H) (h1 : nbr W H sn x y → A u) (h0 : ¬ nbr W H sn x y → B u) :
    wp_M_isSeen (nI x - 1) (nI y) u (fun r12 s11 => ((r12 = 0 → (wp_M_isSeen (nI x + 1) (nI y) s11 (fun r15 s14 => ((r15 = 0 → (wp_M_isSeen (nI x) (nI y - 1) s14 (fun r18 s17 => ((r18 = 0 → (wp_M_isSeen (nI x) (nI y + 1) s17 (fun r21 s20 => ((r21 = 0 → B s20) ∧ (¬ r21 = 0 → A s20))))) ∧ (¬ r18 = 0 → A s17))))) ∧ (¬ r15 = 0 → A s14))))) ∧ (¬ r12 = 0 → A s11))) := by
  obtain ⟨w1, w2, w3, w4, ew, eh, hb⟩ := id hG
  rw [nI_1, nI_1]
  refine sp_M_isSeen hG hs (fun x' y' z1 z2 e1 e2 e3 => ⟨fun z => absurd z (by decide), fun _ => h1 (Or.inl ?_)⟩) (fun n1 => ⟨fun _ => ?_, fun z => absurd rfl z⟩)
  · obtain ⟨q1, q2⟩ := nI_sub_eq (a := x) (b := 1) (x := x') (by omega) (by omega) (by omega) e1
    have q3 := nI_inj (by omega) (by omega) e2
    refine ⟨q1, ?_⟩
    rw [← q2, q3]; exact e3
  refine sp_M_isSeen hG hs (fun x' y' z1 z2 e1 e2 e3 => ⟨fun z => absurd z (by decide), fun _ => h1 (Or.inr (Or.inl ?_))⟩) (fun n2 => ⟨fun _ => ?_, fun z => absurd rfl z⟩)
  · have q2 := nI_inj (by omega) (by omega) e1
    have q3 := nI_inj (by omega) (by omega) e2
    refine ⟨by omega, ?_⟩
    rw [q2, q3]; exact e3
  refine sp_M_isSeen hG hs (fun x' y' z1 z2 e1 e2 e3 => ⟨fun z => absurd z (by decide), fun _ => h1 (Or.inr (Or.inr (Or.inl ?_)))⟩) (fun n3 => ⟨fun _ => ?_, fun z => absurd rfl z⟩)
  · obtain ⟨q1, q2⟩ := nI_sub_eq (a := y) (b := 1) (x := y') (by omega) (by omega) (by omega) e2
    have q3 := nI_inj (by omega) (by omega) e1
    refine ⟨q1, ?_⟩
    rw [← q2, q3]; exact e3
  refine sp_M_isSeen hG hs (fun x' y' z1 z2 e1 e2 e3 => ⟨fun z => absurd z (by decide), fun _ => h1 (Or.inr (Or.inr (Or.inr ?_)))⟩) (fun n4 => ⟨fun _ => h0 ?_, fun z => absurd rfl z⟩)
  · have q2 := nI_inj (by omega) (by omega) e1
    have q3 := nI_inj (by omega) (by omega) e2
    refine ⟨by omega, ?_⟩
    rw [q2, q3]; exact e3
  · rintro (⟨z1, z2⟩ | ⟨z1, z2⟩ | ⟨z1, z2⟩ | ⟨z1, z2⟩)
    · have := n1 (x - 1) y (by omega) hy (by rw [show (1 : Int32) = nI 1 from rfl, pk_sub z1]) rfl
      omega
    · have := n2 (x + 1) y z1 hy rfl rfl
      omega
    · have := n3 x (y - 1) hx (by omega) rfl (by rw [show (1 : Int32) = nI 1 from rfl, pk_sub z1])
      omega
    · have := n4 x (y + 1) hx z1 rfl rfl
      omega
def pass (W H : Nat) (bl sn0 : Nat → Nat) (c a m : Nat) (sn : Nat → Nat) : Prop := (∀ b, b < W * H → sn b = 1 → alw W H bl c b) ∧ (∀ b, sn0 b = 1 → sn b = 1) ∧ ((m = 0 ∧ sn = sn0 ∧ ∀ x y, x < W → y < H → x + W * y < a → bl (x + W * y) = 0 → sn (x + W * y) = 0 → ¬ nbr W H sn x y) ∨ (m = 1 ∧ unS (W * H) sn < unS (W * H) sn0))
theorem parts_pass {W H : Nat} {bl sn0 : Nat → Nat} {u : zz_St} {post : Int32 → zz_St → Prop} {kn30 : Int32 → Int32 → zz_St → Prop} {kn76 : Int32 → Int32 → Int32 → zz_St → Prop} {n c : Nat} (hG : rG W H bl (sg_i u 1) (sg_i u 2) (sg_a u 0))
    (hx : ∀ m sn f, snr sn f → pass W H bl sn0 c (W * H) m sn → kn76 (nI n) (nI c) (nI m) (ss_a u 17 f)) :
    ∀ t a m sn f, a + t = W * H → snr sn f → pass W H bl sn0 c a m sn → wp_M_parts_85_f post kn30 kn76 (t + 1) (nI n) (nI c) (nI m) (nI a) (ss_a u 17 f) := by
  obtain ⟨w1, w2, w3, w4, ew, eh, hb⟩ := id hG
  have h36 := WH_le w2 w4
  intro t
  induction t with
  | zero =>
    intro a m sn f ha hs hp
    show wp_M_parts_85 post kn30 kn76 _ _ _ _ _ _
    unfold wp_M_parts_85
    simp (decide := true) only [sx_il, sx_ia, sx_ib, sy_i, sz_i, sx_li, sx_la, sx_lb, sy_l, sz_l, sx_ai, sx_al, sx_ab, sy_a, sz_a, sx_bi, sx_bl, sx_ba, sy_b, sz_b]
    rw [ew, eh, pk_mul]
    have e : a = W * H := by omega
    subst e
    exact pk_le (W * H) (W * H) (fun _ => hx m sn f hs hp) (fun z => absurd z (by omega))
  | succ t ih =>
    intro a m sn f ha hs hp
    have hm : m ≤ 1 := by
      rcases hp.2.2 with ⟨q, -⟩ | ⟨q, -⟩ <;> omega
    show wp_M_parts_85 post kn30 kn76 _ _ _ _ _ _
    have skip : (bl a = 0 → sn a = 1) → wp_M_parts_223 post kn30 kn76 (wp_M_parts_85_f post kn30 kn76 (t + 1)) (nI n) (nI c) (nI m) (nI a) (ss_a u 17 f) := fun q => by
      unfold wp_M_parts_223
      rw [nI_1]
      refine ih (a + 1) m sn f (by omega) hs ⟨hp.1, hp.2.1, ?_⟩
      rcases hp.2.2 with ⟨p1, p2, p3⟩ | p
      · refine Or.inl ⟨p1, p2, fun x y z1 z2 z3 z4 z5 => ?_⟩
        by_cases e : x + W * y = a
        · rw [e] at z4 z5
          have := q z4
          omega
        · exact p3 x y z1 z2 (by omega) z4 z5
      · exact Or.inr p
    unfold wp_M_parts_85
    simp (decide := true) only [sx_il, sx_ia, sx_ib, sy_i, sz_i, sx_li, sx_la, sx_lb, sy_l, sz_l, sx_ai, sx_al, sx_ab, sy_a, sz_a, sx_bi, sx_bl, sx_ba, sy_b, sz_b]
    have ha36 : a < 36 := by omega
    have hba := hb a ha36
    have hsa := hs a ha36
    rw [ew, eh, pk_mul, nI_clamp (n := a) (by omega), hba.1, hsa.1]
    refine pk_le (W * H) a (fun z => absurd z (by omega)) (fun _ => ⟨vin ha36, ?_⟩)
    refine pk_eq (bl a) 0 (fun o => ⟨vin ha36, ?_⟩) (fun o => skip (fun z => absurd z o))
    refine pk_eq (sn a) 0 (fun s0 => ⟨nI_ne0 (by omega) (by omega), ?_⟩) (fun s0 => skip (fun _ => by omega))
    obtain ⟨x, y, hxW, hyH, exy⟩ := cell_xy (W := W) (H := H) w1 (show a < W * H by omega)
    rw [pk_rem (by omega) (by omega) (by omega), pk_div (by omega) (by omega) (by omega)]
    rw [exy, mod_cell hxW, div_cell hxW, ← exy]
    intro v9 e9
    subst e9
    refine ⟨nI_ne0 (by omega) (by omega), ?_⟩
    intro v10 e10
    subst e10
    refine parts_beside (sn := sn) (A := fun s => wp_M_parts_192 post kn30 kn76 (wp_M_parts_85_f post kn30 kn76 (t + 1)) (nI n) (nI c) (nI m) (nI a) s) (B := fun s => wp_M_parts_197 post kn30 kn76 (wp_M_parts_85_f post kn30 kn76 (t + 1)) (nI n) (nI c) (nI m) (nI a) 0 s) (by simp (decide := true) only [sx_il, sx_ia, sx_ib, sy_i, sz_i, sx_li, sx_la, sx_lb, sy_l, sz_l, sx_ai, sx_al, sx_ab, sy_a, sz_a, sx_bi, sx_bl, sx_ba, sy_b, sz_b]; exact hG) (by simp (decide := true) only [sx_il, sx_ia, sx_ib, sy_i, sz_i, sx_li, sx_la, sx_lb, sy_l, sz_l, sx_ai, sx_al, sx_ab, sy_a, sz_a, sx_bi, sx_bl, sx_ba, sy_b, sz_b]; exact hs) hxW hyH (fun hn => ?_) (fun hn => ?_)
    ·
      show wp_M_parts_192 post kn30 kn76 _ _ _ _ _ _
      have go : wp_M_parts_217 post kn30 kn76 (wp_M_parts_85_f post kn30 kn76 (t + 1)) (nI n) (nI c) (nI a) (ss_a u 17 (upd f a 1)) := by
        unfold wp_M_parts_217 wp_M_parts_222 wp_M_parts_223
        rw [nI_1]
        refine ih (a + 1) 1 (fun b => if b = a then 1 else sn b) (upd f a (nI 1)) (by omega) (snr_upd hs (by omega)) ⟨?_, ?_, Or.inr ⟨rfl, ?_⟩⟩
        · intro b hbN
          show (if b = a then 1 else sn b) = 1 → _
          intro e
          by_cases eb : b = a
          · rw [eb, exy]
            exact nbr_alw hxW hyH (by rw [← exy]; exact o) hp.1 hn
          · rw [if_neg eb] at e
            exact hp.1 b hbN e
        · intro b e
          show (if b = a then 1 else sn b) = 1
          by_cases eb : b = a
          · rw [if_pos eb]
          · rw [if_neg eb]; exact hp.2.1 b e
        · have r : unS (W * H) (fun b => if b = a then 1 else sn b) + 1 = unS (W * H) sn := by
            refine cntB_remove (m := a) (by omega) (by rw [decide_eq_true_iff]; exact s0) (fun i hi => ?_)
            by_cases ei : i = a
            · simp [ei]
            · simp [ei]
          rcases hp.2.2 with ⟨-, p2, -⟩ | ⟨-, p⟩
          · rw [p2] at r ⊢; omega
          · omega
      unfold wp_M_parts_192 wp_M_parts_197
      simp (decide := true) only [sx_il, sx_ia, sx_ib, sy_i, sz_i, sx_li, sx_la, sx_lb, sy_l, sz_l, sx_ai, sx_al, sx_ab, sy_a, sz_a, sx_bi, sx_bl, sx_ba, sy_b, sz_b]
      rw [nI_clamp (n := a) (by omega), so_a]
      refine ⟨vin ha36, trivial, fun _ => ⟨fun z => z.elim, fun _ => go⟩, fun _ => go⟩
    · show wp_M_parts_197 post kn30 kn76 _ _ _ _ _ _ _
      unfold wp_M_parts_197
      simp (decide := true) only [sx_il, sx_ia, sx_ib, sy_i, sz_i, sx_li, sx_la, sx_lb, sy_l, sz_l, sx_ai, sx_al, sx_ab, sy_a, sz_a, sx_bi, sx_bl, sx_ba, sy_b, sz_b]
      rw [nI_clamp (n := a) (by omega), so_a]
      have hf : snr sn (upd f a (nI 0)) := fun b hbb => by
        by_cases eb : b = a
        · rw [eb, pk_us, s0]; exact ⟨rfl, by omega⟩
        · rw [pk_un eb]; exact hs b hbb
      refine ⟨vin ha36, trivial, fun em => ⟨fun _ => ?_, fun z => z.elim⟩, fun em => ?_⟩
      · unfold wp_M_parts_222 wp_M_parts_223
        rw [nI_1]
        refine ih (a + 1) 0 sn (upd f a (nI 0)) (by omega) hf ⟨hp.1, hp.2.1, Or.inl ?_⟩
        rcases hp.2.2 with ⟨p1, p2, p3⟩ | ⟨p, -⟩
        · refine ⟨rfl, p2, fun x' y' z1 z2 z3 z4 z5 => ?_⟩
          by_cases e : x' + W * y' = a
          · obtain ⟨q1, q2⟩ := cell_inj z1 hxW (e.trans exy)
            rw [q1, q2]; exact hn
          · exact p3 x' y' z1 z2 (by omega) z4 z5
        · rw [p] at em
          exact absurd em (by decide)
      · unfold wp_M_parts_217 wp_M_parts_222 wp_M_parts_223
        rw [nI_1]
        refine ih (a + 1) 1 sn (upd f a (nI 0)) (by omega) hf ⟨hp.1, hp.2.1, Or.inr ?_⟩
        rcases hp.2.2 with ⟨p1, -⟩ | p
        · rw [p1] at em
          exact absurd rfl em
        · exact ⟨rfl, p.2⟩
