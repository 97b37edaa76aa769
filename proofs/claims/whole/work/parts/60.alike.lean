def imX (W k x y : Nat) : Nat := if k = 3 then y else if k = 2 then x else W - 1 - x
def imY (H k x y : Nat) : Nat := if k = 3 then x else if k = 1 then y else H - 1 - y
def sameC (W H : Nat) (bl : Nat → Nat) (k x y : Nat) : Prop := bl (x + W * y) = bl (imX W k x y + W * imY H k x y)
def alk (W H : Nat) (bl : Nat → Nat) (k : Nat) : Prop := ∀ x y, x < W → y < H → sameC W H bl k x y
def okA (W H : Nat) (bl : Nat → Nat) (a0 : Int32) : Prop := ∃ k : Nat, k ≤ 3 ∧ a0 = nI k ∧ (k = 3 → W = H) ∧ alk W H bl k
theorem im_lt {W H k x y : Nat} (hk : k ≤ 3) (h3 : k = 3 → W = H) (hx : x < W) (hy : y < H) : imX W k x y < W ∧ imY H k x y < H := by
  unfold imX imY
  by_cases e3 : k = 3
  · have := h3 e3
    rw [if_pos e3, if_pos e3]; omega
  · rw [if_neg e3, if_neg e3]
    constructor
    · split <;> omega
    · split <;> omega
theorem sp_G_imageIsOpen {W H : Nat} {bl : Nat → Nat} {k x y : Nat} {u : zz_St} {post : Int32 → zz_St → Prop} (hG : rG W H bl (sg_i u 0) (sg_i u 1) (sg_a u 0)) (hk : k ≤ 3) (h3 : k = 3 → W = H) (hx : x < W) (hy : y < H)
    (h1 : opn W H bl (imX W k x y) (imY H k x y) = true → post 1 u) (h0 : opn W H bl (imX W k x y) (imY H k x y) = false → post 0 u) : wp_G_imageIsOpen (nI k) (nI x) (nI y) u post := by
  obtain ⟨w1, w2, w3, w4, ew, eh, hb⟩ := id hG
  have ex : nI W - 1 - nI x = nI (W - 1 - x) := by rw [show (1 : Int32) = nI 1 from rfl, pk_sub (by omega), pk_sub (by omega)]
  have ey : nI H - 1 - nI y = nI (H - 1 - y) := by rw [show (1 : Int32) = nI 1 from rfl, pk_sub (by omega), pk_sub (by omega)]
  have g1 : ∀ {p : Prop}, p → ((1 : Int32) = 0 ∨ (1 : Int32) = 1) ∧ p := fun h => ⟨Or.inr rfl, h⟩
  have g0 : ∀ {p : Prop}, p → ((0 : Int32) = 0 ∨ (0 : Int32) = 1) ∧ p := fun h => ⟨Or.inl rfl, h⟩
  unfold wp_G_imageIsOpen
  rw [ew, eh, ex, ey]
  refine ⟨fun c => ?_, fun c => ?_, fun c => ?_, fun c => ?_⟩
  · have e : k = 0 := nI_inj (by omega) (by omega) c
    subst e
    exact sp_G_isOpenN hG (by omega) (by omega) (fun q => g1 (h1 q)) (fun q => g0 (h0 q))
  · have e : k = 1 := nI_inj (by omega) (by omega) c
    subst e
    exact sp_G_isOpenN hG (by omega) (by omega) (fun q => g1 (h1 q)) (fun q => g0 (h0 q))
  · have e : k = 2 := nI_inj (by omega) (by omega) c
    subst e
    exact sp_G_isOpenN hG (by omega) (by omega) (fun q => g1 (h1 q)) (fun q => g0 (h0 q))
  · rw [nI_toInt (by omega)] at c
    have e : k = 3 := by omega
    subst e
    exact sp_G_isOpenN hG (by omega) (by omega) (fun q => g1 (h1 q)) (fun q => g0 (h0 q))
theorem opn_same {W H : Nat} {bl : Nat → Nat} {x y x' y' : Nat} (hb : ∀ c, c < 36 → bl c ≤ 1) (h36 : W * H ≤ 36) (hx : x < W) (hy : y < H) (hx' : x' < W) (hy' : y' < H) : opn W H bl x y = opn W H bl x' y' ↔ bl (x + W * y) = bl (x' + W * y') := by
  have c1 := cell_lt hx hy
  have c2 := cell_lt hx' hy'
  have b1 := hb (x + W * y) (by omega)
  have b2 := hb (x' + W * y') (by omega)
  rw [Bool.eq_iff_iff, opn_iff, opn_iff]
  simp only [hx, hy, hx', hy', true_and]
  omega
theorem sp_X_alike {W H : Nat} {bl : Nat → Nat} {a0 : Int32} {u : zz_St} {post : Int32 → zz_St → Prop} (hG : rG W H bl (sg_i u 0) (sg_i u 1) (sg_a u 0)) (h1 : okA W H bl a0 → post 1 u) (h0 : ¬ okA W H bl a0 → post 0 u) : wp_X_alike a0 u post := by
  obtain ⟨w1, w2, w3, w4, ew, eh, hb⟩ := id hG
  have h36 := WH_le w2 w4
  have hb1 : ∀ c, c < 36 → bl c ≤ 1 := fun c hc => (hb c hc).2
  have inj : ∀ {k k' : Nat}, k ≤ 3 → k' ≤ 3 → nI k = nI k' → k = k' := fun q1 q2 e => nI_inj (by omega) (by omega) e
  have main : ∀ k : Nat, k ≤ 3 → a0 = nI k → (k = 3 → W = H) → wp_X_alike_33 post a0 u := by
    intro k hk ek h3
    subst ek
    have y1 : alk W H bl k → ((1 : Int32) = 0 ∨ (1 : Int32) = 1) ∧ post 1 u := fun q => ⟨Or.inr rfl, h1 ⟨k, hk, rfl, h3, q⟩⟩
    have y0 : ¬ alk W H bl k → ((0 : Int32) = 0 ∨ (0 : Int32) = 1) ∧ post 0 u := fun q => ⟨Or.inl rfl, h0 (by
      rintro ⟨k', z1, z2, z3, z4⟩
      have := inj hk z1 z2
      subst this
      exact q z4)⟩
    unfold wp_X_alike_33
    generalize hQ : (fun (r6 : Int32) (s5 : zz_St) => (r6 = 0 ∨ r6 = 1) ∧ post r6 s5) = Q
    have q1 : alk W H bl k → Q 1 u := fun z => by rw [← hQ]; exact y1 z
    have q0 : ¬ alk W H bl k → Q 0 u := fun z => by rw [← hQ]; exact y0 z
    refine ⟨H + 1, ?_⟩
    suffices ∀ t y, y + t = H → (∀ x' y', x' < W → y' < y → sameC W H bl k x' y') → wp_G_looksTheSame_2_f Q (t + 1) (nI k) (nI y) u from this H 0 (Nat.zero_add H) (fun x' y' _ z => absurd z (Nat.not_lt_zero y'))
    intro t
    induction t with
    | zero =>
      intro y hy hs
      show wp_G_looksTheSame_2 Q _ _ _ _
      unfold wp_G_looksTheSame_2
      rw [eh]
      exact pk_le H y (fun _ => q1 (fun x' y' z1 z2 => hs x' y' z1 (by omega))) (fun z => absurd z (by omega))
    | succ t ih =>
      intro y hy hs
      show wp_G_looksTheSame_2 Q _ _ _ _
      unfold wp_G_looksTheSame_2
      rw [eh]
      refine pk_le H y (fun z => absurd z (by omega)) (fun _ => ⟨W + 1, ?_⟩)
      suffices ∀ t2 x, x + t2 = W → (∀ x', x' < x → sameC W H bl k x' y) → wp_G_looksTheSame_12_f Q (wp_G_looksTheSame_2_f Q (t + 1)) (t2 + 1) (nI k) (nI y) (nI x) u from this W 0 (Nat.zero_add W) (fun x' z => absurd z (Nat.not_lt_zero x'))
      intro t2
      induction t2 with
      | zero =>
        intro x hx hs2
        show wp_G_looksTheSame_12 Q _ _ _ _ _ _
        unfold wp_G_looksTheSame_12
        rw [ew, nI_1 y]
        refine pk_le W x (fun _ => ih (y + 1) (by omega) (fun x' y' z1 z2 => ?_)) (fun z => absurd z (by omega))
        by_cases e : y' = y
        · rw [e]; exact hs2 x' (by omega)
        · exact hs x' y' z1 (by omega)
      | succ t2 ih2 =>
        intro x hx hs2
        have hxW : x < W := by omega
        have hyH : y < H := by omega
        obtain ⟨i1, i2⟩ := im_lt (W := W) (H := H) hk h3 hxW hyH
        have hsame := opn_same (W := W) (H := H) hb1 h36 hxW hyH i1 i2
        show wp_G_looksTheSame_12 Q _ _ _ _ _ _
        unfold wp_G_looksTheSame_12
        rw [ew]
        have go : sameC W H bl k x y → wp_G_looksTheSame_12_f Q (wp_G_looksTheSame_2_f Q (t + 1)) (t2 + 1) (nI k) (nI y) (nI x + 1) u := fun q => by
          rw [nI_1]
          refine ih2 (x + 1) (by omega) (fun x' z => ?_)
          by_cases e : x' = x
          · rw [e]; exact q
          · exact hs2 x' (by omega)
        have no : ¬ sameC W H bl k x y → Q 0 u := fun q => q0 (fun z => q (z x y hxW hyH))
        refine pk_le W x (fun z => absurd z (by omega)) (fun _ => ?_)
        refine sp_G_isOpenN hG (by omega) (by omega) (fun o1 => ?_) (fun o1 => ?_)
        · refine sp_G_imageIsOpen hG hk h3 hxW hyH (fun o2 => ⟨fun _ => go (hsame.mp (o1.trans o2.symm)), fun z => absurd rfl z⟩) (fun o2 => ⟨fun z => absurd z (by decide), fun _ => no (fun q => ?_)⟩)
          have := hsame.mpr q
          rw [o1, o2] at this
          cases this
        · refine sp_G_imageIsOpen hG hk h3 hxW hyH (fun o2 => ⟨fun z => absurd z (by decide), fun _ => no (fun q => ?_)⟩) (fun o2 => ⟨fun _ => go (hsame.mp (o1.trans o2.symm)), fun z => absurd rfl z⟩)
          have := hsame.mpr q
          rw [o1, o2] at this
          cases this
  unfold wp_X_alike
  refine ⟨fun c => h0 ?_, fun c0 => ⟨fun c => h0 ?_, fun c1 => ?_⟩⟩
  · rintro ⟨k, z1, rfl, -⟩
    exact nI_pos (by omega) c
  · rintro ⟨k, z1, rfl, -⟩
    exact absurd ((nI_ltI (a := 3) (b := k) (by omega) (by omega)).mp c) (by omega)
  · obtain ⟨k, hk31, rfl⟩ := nI_of c0
    have hk : k ≤ 3 := by
      have := (not_congr (nI_ltI (a := 3) (b := k) (by omega) hk31)).mp c1
      omega
    rw [ew, eh]
    refine pk_eq k 3 (fun e => pk_eq W H (fun q => main k hk rfl (fun _ => q)) (fun q => h0 ?_)) (fun e => main k hk rfl (fun z => absurd z e))
    rintro ⟨k', z1, z2, z3, -⟩
    have := inj hk z1 z2
    exact q (z3 (by omega))
