theorem sp_M_alike {W H : Nat} {bl : Nat → Nat} {a0 : Int32} {u : zz_St} {post : Int32 → zz_St → Prop} (hG : rG W H bl (sg_i u 1) (sg_i u 2) (sg_a u 0)) (h1 : okA W H bl a0 → post 1 (ss_i u 0 0)) (h0 : ¬ okA W H bl a0 → post 0 (ss_i u 0 0)) : wp_M_alike a0 u post := by
  have hG0 : rG W H bl (sg_i (ss_i u 0 0) 1) (sg_i (ss_i u 0 0) 2) (sg_a (ss_i u 0 0) 0) := by simp (decide := true) only [sx_il, sx_ia, sx_ib, sy_i, sz_i, sx_li, sx_la, sx_lb, sy_l, sz_l, sx_ai, sx_al, sx_ab, sy_a, sz_a, sx_bi, sx_bl, sx_ba, sy_b, sz_b]; exact hG
  unfold wp_M_alike
  rw [hG.2.2.2.2.1, hG.2.2.2.2.2.1]
  generalize ss_i u 0 0 = z at *
  obtain ⟨w1, w2, w3, w4, ew, eh, hb⟩ := id hG0
  have h36 := WH_le w2 w4
  have inj : ∀ {k k' : Nat}, k ≤ 3 → k' ≤ 3 → nI k = nI k' → k = k' := fun q1 q2 e => nI_inj (by omega) (by omega) e
  have main : ∀ k : Nat, k ≤ 3 → a0 = nI k → (k = 3 → W = H) → wp_M_alike_32 post a0 z := by
    intro k hk ek h3
    subst ek
    have q1 : alk W H bl k → post 1 z := fun q => h1 ⟨k, hk, rfl, h3, q⟩
    have q0 : ¬ alk W H bl k → post 0 z := fun q => h0 (by
      rintro ⟨k', z1, z2, z3, z4⟩
      have := inj hk z1 z2
      subst this
      exact q z4)
    refine ⟨H + 1, ?_⟩
    suffices ∀ t y, y + t = H → (∀ x' y', x' < W → y' < y → sameC W H bl k x' y') → wp_M_alike_34_f post (t + 1) (nI k) (nI y) z from this H 0 (Nat.zero_add H) (fun x' y' _ z => absurd z (Nat.not_lt_zero y'))
    intro t
    induction t with
    | zero =>
      intro y hy hs
      show wp_M_alike_34 post _ _ _ _
      unfold wp_M_alike_34
      rw [eh]
      exact pk_le H y (fun _ => q1 (fun x' y' z1 z2 => hs x' y' z1 (by omega))) (fun z => absurd z (by omega))
    | succ t ih =>
      intro y hy hs
      show wp_M_alike_34 post _ _ _ _
      unfold wp_M_alike_34
      rw [eh]
      refine pk_le H y (fun z => absurd z (by omega)) (fun _ => ⟨W + 1, ?_⟩)
      suffices ∀ t2 x, x + t2 = W → (∀ x', x' < x → sameC W H bl k x' y) → wp_M_alike_44_f post (wp_M_alike_34_f post (t + 1)) (t2 + 1) (nI k) (nI y) (nI x) z from this W 0 (Nat.zero_add W) (fun x' z => absurd z (Nat.not_lt_zero x'))
      intro t2
      induction t2 with
      | zero =>
        intro x hx hs2
        show wp_M_alike_44 post _ _ _ _ _ _
        unfold wp_M_alike_44
        rw [ew, nI_1 y]
        refine pk_le W x (fun _ => ih (y + 1) (by omega) (fun x' y' z1 z2 => ?_)) (fun z => absurd z (by omega))
        by_cases e : y' = y
        · rw [e]; exact hs2 x' (by omega)
        · exact hs x' y' z1 (by omega)
      | succ t2 ih2 =>
        intro x hx hs2
        have hxW : x < W := by omega
        have hyH : y < H := by omega
        obtain ⟨i1, i2⟩ := im_lt (W := W) (H := H) hk h3 hxW hyH
        have c1 := cell_lt hxW hyH
        have c2 := cell_lt i1 i2
        have b1 := hb (x + W * y) (by omega)
        have b2 := hb (imX W k x y + W * imY H k x y) (by omega)
        have go : sameC W H bl k x y → wp_M_alike_44_f post (wp_M_alike_34_f post (t + 1)) (t2 + 1) (nI k) (nI y) (nI x + 1) z := fun q => by
          rw [nI_1]
          refine ih2 (x + 1) (by omega) (fun x' z => ?_)
          by_cases e : x' = x
          · rw [e]; exact q
          · exact hs2 x' (by omega)
        have no : ¬ sameC W H bl k x y → post 0 z := fun q => q0 (fun z => q (z x y hxW hyH))
        have last : wp_M_alike_106 post (wp_M_alike_34_f post (t + 1)) (wp_M_alike_44_f post (wp_M_alike_34_f post (t + 1)) (t2 + 1)) (nI k) (nI y) (nI x) (nI (imX W k x y)) (nI (imY H k x y)) z := by
          unfold wp_M_alike_106
          have e1 : sg_i z 1 * nI y + nI x = nI (x + W * y) := by rw [ew, pk_mul, nI_add, Nat.add_comm]
          have e2 : sg_i z 1 * nI (imY H k x y) + nI (imX W k x y) = nI (imX W k x y + W * imY H k x y) := by rw [ew, pk_mul, nI_add, Nat.add_comm]
          rw [e1, e2, nI_clamp (n := x + W * y) (by omega), nI_clamp (n := imX W k x y + W * imY H k x y) (by omega), b1.1, b2.1]
          exact ⟨pk_in (x + W * y) 36 (by omega), pk_in (imX W k x y + W * imY H k x y) 36 (by omega), pk_eq _ _ (fun q => go q) (fun q => no q) rfl rfl (by omega) (by omega)⟩
        have ey : sg_i z 2 - 1 - nI y = nI (H - 1 - y) := by rw [eh, show (1 : Int32) = nI 1 from rfl, pk_sub (by omega), pk_sub (by omega)]
        have ex : nI W - 1 - nI x = nI (W - 1 - x) := by rw [show (1 : Int32) = nI 1 from rfl, pk_sub (by omega), pk_sub (by omega)]
        have mid : wp_M_alike_78 post (wp_M_alike_34_f post (t + 1)) (wp_M_alike_44_f post (wp_M_alike_34_f post (t + 1)) (t2 + 1)) (nI k) (nI y) (nI x) (nI (imX W k x y)) z := by
          unfold wp_M_alike_78
          rw [ey]
          refine pk_eq k 3 (fun e => ?_) (fun e => pk_eq k 1 (fun e1 => ?_) (fun e1 => ?_))
          · rw [show imY H k x y = x by unfold imY; rw [if_pos e]] at last
            exact last
          · rw [show imY H k x y = y by unfold imY; rw [if_neg e, if_pos e1]] at last
            exact last
          · rw [show imY H k x y = H - 1 - y by unfold imY; rw [if_neg e, if_neg e1]] at last
            exact last
        show wp_M_alike_44 post _ _ _ _ _ _
        unfold wp_M_alike_44
        rw [ew, ex]
        refine pk_le W x (fun z => absurd z (by omega)) (fun _ => ?_)
        refine pk_eq k 3 (fun e => ?_) (fun e => pk_eq k 2 (fun e1 => ?_) (fun e1 => ?_))
        · rw [show imX W k x y = y by unfold imX; rw [if_pos e]] at mid
          exact mid
        · rw [show imX W k x y = x by unfold imX; rw [if_neg e, if_pos e1]] at mid
          exact mid
        · rw [show imX W k x y = W - 1 - x by unfold imX; rw [if_neg e, if_neg e1]] at mid
          exact mid
  refine ⟨fun c => h0 ?_, fun c0 => ⟨fun c => h0 ?_, fun c1 => ?_⟩⟩
  · rintro ⟨k, z1, rfl, -⟩
    exact nI_pos (by omega) c
  · rintro ⟨k, z1, rfl, -⟩
    exact absurd ((nI_ltI (a := 3) (b := k) (by omega) (by omega)).mp c) (by omega)
  · obtain ⟨k, hk31, rfl⟩ := nI_of c0
    have hk : k ≤ 3 := by
      have := (not_congr (nI_ltI (a := 3) (b := k) (by omega) hk31)).mp c1
      omega
    refine pk_eq k 3 (fun e => pk_eq W H (fun q => main k hk rfl (fun _ => q)) (fun q => h0 ?_)) (fun e => main k hk rfl (fun z => absurd z e))
    rintro ⟨k', z1, z2, z3, -⟩
    have := inj hk z1 z2
    exact q (z3 (by omega))
