def opn (W H : Nat) (bl : Nat → Nat) (x y : Nat) : Bool := decide (x < W) && decide (y < H) && (bl (x + W * y) == 0)
theorem opn_iff {W H : Nat} {bl : Nat → Nat} {x y : Nat} : opn W H bl x y = true ↔ x < W ∧ y < H ∧ bl (x + W * y) = 0 := by
  simp [opn, and_assoc]
theorem cell_lt {W H x y : Nat} (hx : x < W) (hy : y < H) : x + W * y < W * H := by
  have h1 : W * (y + 1) ≤ W * H := Nat.mul_le_mul_left W hy
  rw [Nat.mul_succ] at h1
  omega
theorem WH_le {W H : Nat} (hW : W ≤ 6) (hH : H ≤ 6) : W * H ≤ 36 := Nat.mul_le_mul hW hH
theorem sp_G_cellAt {W H : Nat} {bl : Nat → Nat} {a0 a1 : Int32} {u : zz_St} {post : Int32 → zz_St → Prop} (hG : rG W H bl (sg_i u 0) (sg_i u 1) (sg_a u 0))
    (h1 : ∀ x y : Nat, x < W → y < H → a0 = nI x → a1 = nI y → post (nI (x + W * y)) u) (h0 : (∀ x y : Nat, x < W → y < H → a0 = nI x → a1 = nI y → False) → post (-1) u) : wp_G_cellAt a0 a1 u post := by
  obtain ⟨w1, w2, w3, w4, ew, eh, hb⟩ := hG
  unfold wp_G_cellAt
  rw [ew, eh]
  rcases nI_cases a0 W (by omega) with ⟨x, hx, rfl⟩ | hx
  · refine ⟨fun c => absurd c (nI_pos (by omega)), fun _ => ⟨fun c => absurd c (nI_ge hx (by omega)), fun _ => ?_⟩⟩
    rcases nI_cases a1 H (by omega) with ⟨y, hy, rfl⟩ | hy
    · refine ⟨fun c => absurd c (nI_pos (by omega)), fun _ => ⟨fun c => absurd c (nI_ge hy (by omega)), fun _ => ?_⟩⟩
      rw [pk_mul, nI_add]
      exact h1 x y hx hy rfl rfl
    · have z : post (-1) u := h0 (fun x' y' q1 q2 e1 e2 => by
        subst e2
        rcases hy with q | q
        · exact nI_pos (by omega) q
        · exact nI_ge q2 (by omega) q)
      exact ⟨fun _ => z, fun c => ⟨fun _ => z, fun c2 => absurd hy (by rintro (q | q) <;> contradiction)⟩⟩
  · have z : post (-1) u := h0 (fun x' y' q1 q2 e1 e2 => by
      subst e1
      rcases hx with q | q
      · exact nI_pos (by omega) q
      · exact nI_ge q1 (by omega) q)
    exact ⟨fun _ => z, fun c => ⟨fun _ => z, fun c2 => absurd hx (by rintro (q | q) <;> contradiction)⟩⟩
theorem sp_G_isOpen {W H : Nat} {bl : Nat → Nat} {a0 a1 : Int32} {u : zz_St} {post : Int32 → zz_St → Prop} (hG : rG W H bl (sg_i u 0) (sg_i u 1) (sg_a u 0))
    (h1 : ∀ x y : Nat, opn W H bl x y = true → a0 = nI x → a1 = nI y → post 1 u) (h0 : (∀ x y : Nat, opn W H bl x y = true → a0 = nI x → a1 = nI y → False) → post 0 u) : wp_G_isOpen a0 a1 u post := by
  obtain ⟨w1, w2, w3, w4, ew, eh, hb⟩ := id hG
  refine sp_G_cellAt hG (fun x y hx hy e1 e2 => ?_) (fun q => ?_)
  · have hlt := cell_lt hx hy
    have h36 := WH_le w2 w4
    refine ⟨fun c => absurd c (nI_nm1 (by omega)), fun _ => ⟨pk_in (x + W * y) 36 (by omega), ?_⟩⟩
    rw [pk_cl (x + W * y), (hb _ (by omega)).1]
    have h5 := (hb (x + W * y) (by omega)).2
    refine pk_eq (bl (x + W * y)) 0 (fun c => h1 x y (opn_iff.mpr ⟨hx, hy, c⟩) e1 e2) (fun c => h0 (fun x' y' o e3 e4 => c ?_))
    obtain ⟨o1, o2, o3⟩ := opn_iff.mp o
    have q1 : x = x' := nI_inj (by omega) (by omega) (e1.symm.trans e3)
    have q2 : y = y' := nI_inj (by omega) (by omega) (e2.symm.trans e4)
    rw [q1, q2]; exact o3
  · exact ⟨fun _ => h0 (fun x y o e1 e2 => q x y (opn_iff.mp o).1 (opn_iff.mp o).2.1 e1 e2), fun c => absurd rfl c⟩
theorem sp_M_isCell {W H : Nat} {bl : Nat → Nat} {a0 a1 : Int32} {u : zz_St} {post : Int32 → zz_St → Prop} (hG : rG W H bl (sg_i u 1) (sg_i u 2) (sg_a u 0))
    (h1 : ∀ x y : Nat, x < W → y < H → a0 = nI x → a1 = nI y → post 1 u) (h0 : (∀ x y : Nat, x < W → y < H → a0 = nI x → a1 = nI y → False) → post 0 u) : wp_M_isCell a0 a1 u post := by
  obtain ⟨w1, w2, w3, w4, ew, eh, hb⟩ := hG
  unfold wp_M_isCell
  rw [ew, eh]
  rcases nI_cases a0 W (by omega) with ⟨x, hx, rfl⟩ | hx
  · refine ⟨fun c => absurd c (nI_pos (by omega)), fun _ => ⟨fun c => absurd c (nI_ge hx (by omega)), fun _ => ?_⟩⟩
    rcases nI_cases a1 H (by omega) with ⟨y, hy, rfl⟩ | hy
    · exact ⟨fun c => absurd c (nI_pos (by omega)), fun _ => ⟨fun c => absurd c (nI_ge hy (by omega)), fun _ => h1 x y hx hy rfl rfl⟩⟩
    · have z : post 0 u := h0 (fun x' y' q1 q2 e1 e2 => by
        subst e2
        rcases hy with q | q
        · exact nI_pos (by omega) q
        · exact nI_ge q2 (by omega) q)
      exact ⟨fun _ => z, fun c => ⟨fun _ => z, fun c2 => absurd hy (by rintro (q | q) <;> contradiction)⟩⟩
  · have z : post 0 u := h0 (fun x' y' q1 q2 e1 e2 => by
      subst e1
      rcases hx with q | q
      · exact nI_pos (by omega) q
      · exact nI_ge q1 (by omega) q)
    exact ⟨fun _ => z, fun c => ⟨fun _ => z, fun c2 => absurd hx (by rintro (q | q) <;> contradiction)⟩⟩
theorem sp_M_isOpen {W H : Nat} {bl : Nat → Nat} {a0 a1 : Int32} {u : zz_St} {post : Int32 → zz_St → Prop} (hG : rG W H bl (sg_i u 1) (sg_i u 2) (sg_a u 0))
    (h1 : ∀ x y : Nat, opn W H bl x y = true → a0 = nI x → a1 = nI y → post 1 u) (h0 : (∀ x y : Nat, opn W H bl x y = true → a0 = nI x → a1 = nI y → False) → post 0 u) : wp_M_isOpen a0 a1 u post := by
  obtain ⟨w1, w2, w3, w4, ew, eh, hb⟩ := id hG
  refine sp_M_isCell hG (fun x y hx hy e1 e2 => ?_) (fun q => ?_)
  · have hlt := cell_lt hx hy
    have h36 := WH_le w2 w4
    refine ⟨fun c => absurd c (by decide), fun _ => ?_⟩
    have e5 : sg_i u 1 * a1 + a0 = nI (x + W * y) := by rw [ew, e1, e2, pk_mul, nI_add, Nat.add_comm]
    rw [e5]
    refine ⟨pk_in (x + W * y) 36 (by omega), ?_⟩
    rw [pk_cl (x + W * y), (hb _ (by omega)).1]
    have h5 := (hb (x + W * y) (by omega)).2
    refine pk_eq (bl (x + W * y)) 0 (fun c => h1 x y (opn_iff.mpr ⟨hx, hy, c⟩) e1 e2) (fun c => h0 (fun x' y' o e3 e4 => c ?_))
    obtain ⟨o1, o2, o3⟩ := opn_iff.mp o
    have q1 : x = x' := nI_inj (by omega) (by omega) (e1.symm.trans e3)
    have q2 : y = y' := nI_inj (by omega) (by omega) (e2.symm.trans e4)
    rw [q1, q2]; exact o3
  · exact ⟨fun _ => h0 (fun x y o e1 e2 => q x y (opn_iff.mp o).1 (opn_iff.mp o).2.1 e1 e2), fun c => absurd rfl c⟩
def rlen (W H : Nat) (bl : Nat → Nat) (d : Nat) : Nat → Nat → Nat → Nat
  | 0, _, _ => 0
  | f + 1, x, y => if opn W H bl x y = true then rlen W H bl d f (x + (1 - d)) (y + d) + 1 else 0
theorem rlen_le (W H : Nat) (bl : Nat → Nat) (d : Nat) : ∀ f x y, rlen W H bl d f x y ≤ f := by
  intro f
  induction f with
  | zero => intro x y; exact Nat.le_refl 0
  | succ f ih =>
    intro x y
    unfold rlen
    split
    · have := ih (x + (1 - d)) (y + d); omega
    · omega
theorem rlen_op {W H : Nat} {bl : Nat → Nat} {d : Nat} : ∀ {f x y p : Nat}, p < rlen W H bl d f x y → opn W H bl (x + p * (1 - d)) (y + p * d) = true := by
  intro f
  induction f with
  | zero => intro x y p h; exact absurd h (Nat.not_lt_zero p)
  | succ f ih =>
    intro x y p h
    unfold rlen at h
    split at h
    · rename_i ho
      cases p with
      | zero => simpa using ho
      | succ p =>
        have h2 := ih (x := x + (1 - d)) (y := y + d) (p := p) (by omega)
        rw [Nat.succ_mul, Nat.succ_mul]
        have e1 : x + (p * (1 - d) + (1 - d)) = x + (1 - d) + p * (1 - d) := by omega
        have e2 : y + (p * d + d) = y + d + p * d := by omega
        rw [e1, e2]; exact h2
    · exact absurd h (Nat.not_lt_zero p)
theorem rlen_end {W H : Nat} {bl : Nat → Nat} {d : Nat} : ∀ {f x y : Nat}, rlen W H bl d f x y < f → opn W H bl (x + rlen W H bl d f x y * (1 - d)) (y + rlen W H bl d f x y * d) = false := by
  intro f
  induction f with
  | zero => intro x y h; exact absurd h (Nat.not_lt_zero _)
  | succ f ih =>
    intro x y h
    unfold rlen at h ⊢
    split at h
    · rename_i ho
      rw [if_pos ho]
      have h2 := ih (x := x + (1 - d)) (y := y + d) (by omega)
      rw [Nat.succ_mul, Nat.succ_mul]
      generalize rlen W H bl d f (x + (1 - d)) (y + d) = r at h2 ⊢
      have e1 : x + (r * (1 - d) + (1 - d)) = x + (1 - d) + r * (1 - d) := by omega
      have e2 : y + (r * d + d) = y + d + r * d := by omega
      rw [e1, e2]; exact h2
    · rename_i ho
      rw [if_neg ho]
      simpa using ho
theorem rlen_eq {W H : Nat} {bl : Nat → Nat} {d f x y k : Nat} (hk : k ≤ f) (h1 : ∀ p, p < k → opn W H bl (x + p * (1 - d)) (y + p * d) = true) (h2 : k = f ∨ opn W H bl (x + k * (1 - d)) (y + k * d) = false) : rlen W H bl d f x y = k := by
  rcases Nat.lt_trichotomy (rlen W H bl d f x y) k with h | h | h
  · have := rlen_end (W := W) (H := H) (bl := bl) (d := d) (f := f) (x := x) (y := y) (by omega)
    rw [h1 _ h] at this
    cases this
  · exact h
  · rcases h2 with h2 | h2
    · have := rlen_le W H bl d f x y; omega
    · have := rlen_op h
      rw [h2] at this
      cases this
def prv (W H : Nat) (bl : Nat → Nat) (d x y : Nat) : Bool := if d = 0 then (decide (1 ≤ x) && opn W H bl (x - 1) y) else (decide (1 ≤ y) && opn W H bl x (y - 1))
def isSt (W H : Nat) (bl : Nat → Nat) (d c : Nat) : Bool := decide (2 ≤ rlen W H bl d 6 (c % W) (c / W)) && !(prv W H bl d (c % W) (c / W))
def mkS (W H : Nat) (bl : Nat → Nat) (d c : Nat) : Nat × Nat × Nat := (c, rlen W H bl d 6 (c % W) (c / W), d)
def preS (W H : Nat) (bl : Nat → Nat) (d n : Nat) : List (Nat × Nat × Nat) := ((List.range n).filter (isSt W H bl d)).map (mkS W H bl d)
def slS (W H : Nat) (bl : Nat → Nat) : List (Nat × Nat × Nat) := preS W H bl 0 (W * H) ++ preS W H bl 1 (W * H)
theorem preS_succ (W H : Nat) (bl : Nat → Nat) (d n : Nat) : preS W H bl d (n + 1) = preS W H bl d n ++ (if isSt W H bl d n = true then [mkS W H bl d n] else []) := by
  unfold preS
  rw [List.range_succ, List.filter_append, List.map_append]
  congr 1
  by_cases h : isSt W H bl d n = true
  · simp [h]
  · simp [h]
