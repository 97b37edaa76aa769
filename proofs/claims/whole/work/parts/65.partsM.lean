def snr (sn : Nat → Nat) (f : Nat → Int32) : Prop := ∀ c, c < 36 → f c = nI (sn c) ∧ sn c ≤ 1
theorem snr_upd {sn : Nat → Nat} {f : Nat → Int32} {a v : Nat} (h : snr sn f) (hv : v ≤ 1) : snr (fun c => if c = a then v else sn c) (upd f a (nI v)) := by
  intro c hc
  show upd f a (nI v) c = nI (if c = a then v else sn c) ∧ (if c = a then v else sn c) ≤ 1
  by_cases e : c = a
  · rw [e, pk_us, if_pos rfl]; exact ⟨rfl, hv⟩
  · rw [pk_un e, if_neg e]; exact h c hc
theorem sp_M_isSeen {W H : Nat} {bl sn : Nat → Nat} {a0 a1 : Int32} {u : zz_St} {post : Int32 → zz_St → Prop} (hG : rG W H bl (sg_i u 1) (sg_i u 2) (sg_a u 0)) (hs : snr sn (sg_a u 17))
    (h1 : ∀ x y : Nat, x < W → y < H → a0 = nI x → a1 = nI y → sn (x + W * y) = 1 → post 1 u) (h0 : (∀ x y : Nat, x < W → y < H → a0 = nI x → a1 = nI y → sn (x + W * y) = 0) → post 0 u) : wp_M_isSeen a0 a1 u post := by
  obtain ⟨w1, w2, w3, w4, ew, eh, hb⟩ := id hG
  have h36 := WH_le w2 w4
  unfold wp_M_isSeen
  refine sp_M_isCell hG (fun x y hx hy e1 e2 => ⟨fun z => absurd z (by decide), fun _ => ?_⟩) (fun z => ⟨fun _ => h0 (fun x y hx hy e1 e2 => (z x y hx hy e1 e2).elim), fun z2 => absurd rfl z2⟩)
  have hc := cell_lt hx hy
  rw [ew, e2, pk_mul, e1, nI_add, show W * y + x = x + W * y by omega]
  refine ⟨vin (by omega), ?_⟩
  rw [nI_clamp (n := x + W * y) (by omega)]
  have hs1 := hs (x + W * y) (by omega)
  rw [hs1.1]
  refine pk_eq (sn (x + W * y)) 0 (fun e => h0 (fun x' y' z1 z2 q1 q2 => ?_)) (fun e => h1 x y hx hy e1 e2 (by omega))
  have e1' := nI_inj (by omega) (by omega) (e1.symm.trans q1)
  have e2' := nI_inj (by omega) (by omega) (e2.symm.trans q2)
  rw [← e1', ← e2']
  exact e
def nbr (W H : Nat) (sn : Nat → Nat) (x y : Nat) : Prop := (1 ≤ x ∧ sn (x - 1 + W * y) = 1) ∨ (x + 1 < W ∧ sn (x + 1 + W * y) = 1) ∨ (1 ≤ y ∧ sn (x + W * (y - 1)) = 1) ∨ (y + 1 < H ∧ sn (x + W * (y + 1)) = 1)
def unS (N : Nat) (sn : Nat → Nat) : Nat := cntB N (fun a => decide (sn a = 0))
def alw (W H : Nat) (bl : Nat → Nat) (c a : Nat) : Prop := bl a = 0 ∧ ∃ d, d ≤ c ∧ bl d = 0 ∧ con W H bl d a
theorem nbr_alw {W H : Nat} {bl sn : Nat → Nat} {c x y : Nat} (hx : x < W) (hy : y < H) (ho : bl (x + W * y) = 0) (hA : ∀ b, b < W * H → sn b = 1 → alw W H bl c b) (h : nbr W H sn x y) : alw W H bl c (x + W * y) := by
  have oxy : opn W H bl x y = true := opn_iff.mpr ⟨hx, hy, ho⟩
  refine ⟨ho, ?_⟩
  rcases h with ⟨h1, h2⟩ | ⟨h1, h2⟩ | ⟨h1, h2⟩ | ⟨h1, h2⟩
  · obtain ⟨b1, d, d1, d2, d3⟩ := hA _ (cell_lt (show x - 1 < W by omega) hy) h2
    refine ⟨d, d1, d2, con_trans d3 (con_adj ⟨x - 1, y, Or.inl ⟨opn_iff.mpr ⟨by omega, hy, b1⟩, ?_, rfl, ?_⟩⟩)⟩
    · rw [show x - 1 + 1 = x by omega]; exact oxy
    · rw [show x - 1 + 1 = x by omega]
  · obtain ⟨b1, d, d1, d2, d3⟩ := hA _ (cell_lt h1 hy) h2
    exact ⟨d, d1, d2, con_trans d3 (con_symm (con_adj ⟨x, y, Or.inl ⟨oxy, opn_iff.mpr ⟨h1, hy, b1⟩, rfl, rfl⟩⟩))⟩
  · obtain ⟨b1, d, d1, d2, d3⟩ := hA _ (cell_lt hx (show y - 1 < H by omega)) h2
    refine ⟨d, d1, d2, con_trans d3 (con_adj ⟨x, y - 1, Or.inr ⟨opn_iff.mpr ⟨hx, by omega, b1⟩, ?_, rfl, ?_⟩⟩)⟩
    · rw [show y - 1 + 1 = y by omega]; exact oxy
    · rw [show y - 1 + 1 = y by omega]
  · obtain ⟨b1, d, d1, d2, d3⟩ := hA _ (cell_lt hx h1) h2
    exact ⟨d, d1, d2, con_trans d3 (con_symm (con_adj ⟨x, y, Or.inr ⟨oxy, opn_iff.mpr ⟨hx, h1, b1⟩, rfl, rfl⟩⟩))⟩
theorem nbr_closed {W H : Nat} {bl sn : Nat → Nat} (hs : ∀ b, b < W * H → sn b ≤ 1) (h : ∀ x y, x < W → y < H → bl (x + W * y) = 0 → sn (x + W * y) = 0 → ¬ nbr W H sn x y) {p q : Nat} (hpq : adjc W H bl p q) : sn p = 1 ↔ sn q = 1 := by
  obtain ⟨x, y, ⟨o1, o2, rfl, rfl⟩ | ⟨o1, o2, rfl, rfl⟩⟩ := hpq
  · obtain ⟨a1, a2, a3⟩ := opn_iff.mp o1
    obtain ⟨b1, b2, b3⟩ := opn_iff.mp o2
    have s1 := hs _ (cell_lt a1 a2)
    have s2 := hs _ (cell_lt b1 b2)
    constructor
    · intro e
      rcases Nat.eq_zero_or_pos (sn (x + 1 + W * y)) with z | z
      · exact absurd (Or.inl ⟨by omega, by rw [show x + 1 - 1 = x by omega]; exact e⟩) (h (x + 1) y b1 b2 b3 z)
      · omega
    · intro e
      rcases Nat.eq_zero_or_pos (sn (x + W * y)) with z | z
      · exact absurd (Or.inr (Or.inl ⟨b1, e⟩)) (h x y a1 a2 a3 z)
      · omega
  · obtain ⟨a1, a2, a3⟩ := opn_iff.mp o1
    obtain ⟨b1, b2, b3⟩ := opn_iff.mp o2
    have s1 := hs _ (cell_lt a1 a2)
    have s2 := hs _ (cell_lt b1 b2)
    constructor
    · intro e
      rcases Nat.eq_zero_or_pos (sn (x + W * (y + 1))) with z | z
      · exact absurd (Or.inr (Or.inr (Or.inl ⟨by omega, by rw [show y + 1 - 1 = y by omega]; exact e⟩))) (h x (y + 1) b1 b2 b3 z)
      · omega
    · intro e
      rcases Nat.eq_zero_or_pos (sn (x + W * y)) with z | z
      · exact absurd (Or.inr (Or.inr (Or.inr ⟨b2, e⟩))) (h x y a1 a2 a3 z)
      · omega
theorem cell_xy {W H a : Nat} (hW : 1 ≤ W) (ha : a < W * H) : ∃ x y, x < W ∧ y < H ∧ a = x + W * y := by
  refine ⟨a % W, a / W, Nat.mod_lt _ (by omega), Nat.div_lt_of_lt_mul ha, ?_⟩
  rw [Nat.add_comm]; exact (Nat.div_add_mod a W).symm
