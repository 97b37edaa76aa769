theorem zz_pigeon : ∀ (m : Nat) (l : List Nat), l.Nodup → (∀ a ∈ l, a < m) → l.length ≤ m := by
  intro m
  induction m with
  | zero =>
    intro l _ h
    cases l with
    | nil => exact Nat.le_refl 0
    | cons a t => exact absurd (h a List.mem_cons_self) (Nat.not_lt_zero a)
  | succ m ih =>
    intro l hn h
    by_cases hm : m ∈ l
    · have h2 := ih (l.erase m) (hn.erase m) (fun a ha => by
        have h3 := (hn.mem_erase_iff).mp ha
        have := h a h3.2
        omega)
      rw [List.length_erase_of_mem hm] at h2
      omega
    · have h2 := ih l hn (fun a ha => by
        have := h a ha
        have h4 : a ≠ m := fun e => hm (e ▸ ha)
        omega)
      omega
theorem div_cell {W x y : Nat} (hx : x < W) : (x + W * y) / W = y := by
  rw [Nat.add_mul_div_left _ _ (by omega), Nat.div_eq_of_lt hx, Nat.zero_add]
theorem mod_cell {W x y : Nat} (hx : x < W) : (x + W * y) % W = x := by
  rw [Nat.add_mul_mod_self_left, Nat.mod_eq_of_lt hx]
theorem cell_inj {W x y x' y' : Nat} (hx : x < W) (hx' : x' < W) (h : x + W * y = x' + W * y') : x = x' ∧ y = y' := by
  have h1 := congrArg (· % W) h
  have h2 := congrArg (· / W) h
  simp only [mod_cell hx, mod_cell hx'] at h1
  simp only [div_cell hx, div_cell hx'] at h2
  exact ⟨h1, h2⟩
theorem isSt_spec {W H : Nat} {bl : Nat → Nat} {d c : Nat} (h : isSt W H bl d c = true) : 2 ≤ rlen W H bl d 6 (c % W) (c / W) ∧ prv W H bl d (c % W) (c / W) = false := by
  simpa [isSt] using h
theorem isX_apart0 {W H : Nat} {bl : Nat → Nat} {x x' y : Nat} (h4 : prv W H bl 0 x' y = false) (hx : x < x') {p : Nat} (hp : p < rlen W H bl 0 6 x y) : x + p + 1 < x' := by
  rcases Nat.lt_or_ge (x + p + 1) x' with q | q
  · exact q
  · have ho := rlen_op (W := W) (H := H) (bl := bl) (d := 0) (f := 6) (x := x) (y := y) (p := x' - 1 - x) (by omega)
    rw [show x + (x' - 1 - x) * (1 - 0) = x' - 1 by omega, show y + (x' - 1 - x) * 0 = y by omega] at ho
    have h5 : prv W H bl 0 x' y = true := by
      unfold prv
      rw [if_pos rfl, ho]
      simp
      omega
    rw [h4] at h5
    cases h5
theorem isX_apart1 {W H : Nat} {bl : Nat → Nat} {x y y' : Nat} (h4 : prv W H bl 1 x y' = false) (hy : y < y') {p : Nat} (hp : p < rlen W H bl 1 6 x y) : y + p + 1 < y' := by
  rcases Nat.lt_or_ge (y + p + 1) y' with q | q
  · exact q
  · have ho := rlen_op (W := W) (H := H) (bl := bl) (d := 1) (f := 6) (x := x) (y := y) (p := y' - 1 - y) (by omega)
    rw [show y + (y' - 1 - y) * 1 = y' - 1 by omega, show x + (y' - 1 - y) * (1 - 1) = x by omega] at ho
    have h5 : prv W H bl 1 x y' = true := by
      unfold prv
      rw [if_neg (by decide), ho]
      simp
      omega
    rw [h4] at h5
    cases h5
theorem isSt_xy {W H : Nat} {bl : Nat → Nat} {d c : Nat} (hd : d < 2) (h : isSt W H bl d c = true) {p : Nat} (hp : p < rlen W H bl d 6 (c % W) (c / W)) : c % W + p * (1 - d) < W ∧ c / W + p * d < H ∧ bl (c % W + p * (1 - d) + W * (c / W + p * d)) = 0 := opn_iff.mp (rlen_op hp)
def celp (W : Nat) (e : Nat × Nat × Nat) (p : Nat) : Nat := e.1 + p * (if e.2.2 = 0 then 1 else W)
theorem celp_mk {W H : Nat} {bl : Nat → Nat} {d c p : Nat} (hd : d < 2) : celp W (mkS W H bl d c) p = c % W + p * (1 - d) + W * (c / W + p * d) := by
  have h1 := Nat.mod_add_div c W
  show c + p * (if d = 0 then 1 else W) = _
  rcases (show d = 0 ∨ d = 1 by omega) with rfl | rfl
  · rw [if_pos rfl, Nat.mul_zero, Nat.add_zero]
    omega
  · rw [if_neg (by decide), Nat.mul_add, Nat.mul_comm W (p * 1), Nat.mul_one]
    omega
theorem mem_preS {W H : Nat} {bl : Nat → Nat} {d n : Nat} {e : Nat × Nat × Nat} : e ∈ preS W H bl d n ↔ ∃ c, c < n ∧ isSt W H bl d c = true ∧ e = mkS W H bl d c := by
  unfold preS
  simp only [List.mem_map, List.mem_filter, List.mem_range]
  constructor
  · rintro ⟨c, ⟨h1, h2⟩, rfl⟩
    exact ⟨c, h1, h2, rfl⟩
  · rintro ⟨c, h1, h2, rfl⟩
    exact ⟨c, ⟨h1, h2⟩, rfl⟩
theorem mkS_apart {W H : Nat} {bl : Nat → Nat} {d c c' p p' : Nat} (hd : d < 2) (h : isSt W H bl d c = true) (h' : isSt W H bl d c' = true) (hne : c ≠ c') (hp : p < rlen W H bl d 6 (c % W) (c / W)) (hp' : p' < rlen W H bl d 6 (c' % W) (c' / W)) : celp W (mkS W H bl d c) p ≠ celp W (mkS W H bl d c') p' := by
  intro e
  rw [celp_mk hd, celp_mk hd] at e
  obtain ⟨a1, a2, -⟩ := isSt_xy hd h hp
  obtain ⟨b1, b2, -⟩ := isSt_xy hd h' hp'
  obtain ⟨e1, e2⟩ := cell_inj a1 b1 e
  have m1 := Nat.mod_add_div c W
  have m2 := Nat.mod_add_div c' W
  rcases (show d = 0 ∨ d = 1 by omega) with rfl | rfl
  · obtain ⟨-, g1⟩ := isSt_spec h
    obtain ⟨-, g2⟩ := isSt_spec h'
    simp only [Nat.mul_one, Nat.mul_zero, Nat.add_zero, Nat.sub_zero] at e1 e2
    clear h h' a1 a2 b1 b2 e
    generalize c % W = x at *
    generalize c / W = y at *
    generalize c' % W = x' at *
    generalize c' / W = y' at *
    subst e2
    rcases Nat.lt_trichotomy x x' with q | q | q
    · have := isX_apart0 g2 q hp; omega
    · rw [q] at m1; omega
    · have := isX_apart0 g1 q hp'; omega
  · obtain ⟨-, g1⟩ := isSt_spec h
    obtain ⟨-, g2⟩ := isSt_spec h'
    simp only [Nat.mul_one, Nat.sub_self, Nat.mul_zero, Nat.add_zero] at e1 e2
    clear h h' a1 a2 b1 b2 e
    generalize c % W = x at *
    generalize c / W = y at *
    generalize c' % W = x' at *
    generalize c' / W = y' at *
    subst e1
    rcases Nat.lt_trichotomy y y' with q | q | q
    · have := isX_apart1 g2 q hp; omega
    · rw [q] at m1; omega
    · have := isX_apart1 g1 q hp'; omega
theorem preS_len {W H : Nat} {bl : Nat → Nat} (hW : W ≤ 6) (hH : H ≤ 6) {d n : Nat} (hd : d < 2) : (preS W H bl d n).length ≤ 12 := by
  let g : Nat → Nat := fun c => if d = 0 then (c / W) * 2 + (c % W) / 3 else (c % W) * 2 + (c / W) / 3
  have hl : (preS W H bl d n).length = (((List.range n).filter (isSt W H bl d)).map g).length := by
    simp [preS]
  rw [hl]
  refine zz_pigeon 12 _ ?_ ?_
  · have h1 : ((List.range n).filter (isSt W H bl d)).Pairwise (· < ·) := List.Pairwise.filter _ List.pairwise_lt_range
    refine List.pairwise_map.mpr (h1.imp_of_mem ?_)
    intro a b ha hb hab e
    have sa := (List.mem_filter.mp ha).2
    have sb := (List.mem_filter.mp hb).2
    obtain ⟨ra, pa⟩ := isSt_spec sa
    obtain ⟨rb, pb⟩ := isSt_spec sb
    have m1 := Nat.mod_add_div a W
    have m2 := Nat.mod_add_div b W
    obtain ⟨a1, a2, -⟩ := isSt_xy hd sa (p := 1) (by omega)
    obtain ⟨b1, b2, -⟩ := isSt_xy hd sb (p := 1) (by omega)
    clear sa sb ha hb h1 hl
    rcases (show d = 0 ∨ d = 1 by omega) with rfl | rfl
    · simp only [Nat.sub_zero, Nat.mul_one] at a1 b1
      simp only [g, if_true] at e
      clear g
      generalize a % W = x at *
      generalize a / W = y at *
      generalize b % W = x' at *
      generalize b / W = y' at *
      have e2 : y = y' := by omega
      subst e2
      rcases Nat.lt_trichotomy x x' with q | q | q
      · have := isX_apart0 pb q (p := 1) (by omega); omega
      · rw [q] at m1; omega
      · have := isX_apart0 pa q (p := 1) (by omega); omega
    · simp only [Nat.mul_one] at a2 b2
      simp only [g, if_neg (show ¬ (1 = 0) by decide)] at e
      clear g
      generalize a % W = x at *
      generalize a / W = y at *
      generalize b % W = x' at *
      generalize b / W = y' at *
      have e2 : x = x' := by omega
      subst e2
      rcases Nat.lt_trichotomy y y' with q | q | q
      · have := isX_apart1 pb q (p := 1) (by omega); omega
      · rw [q] at m1; omega
      · have := isX_apart1 pa q (p := 1) (by omega); omega
  · intro z hz
    obtain ⟨c, hc, rfl⟩ := List.mem_map.mp hz
    have sc := (List.mem_filter.mp hc).2
    have rc := (isSt_spec sc).1
    obtain ⟨a1, a2, -⟩ := isSt_xy hd sc (p := 1) (by omega)
    obtain ⟨b1, b2, -⟩ := isSt_xy hd sc (p := 0) (by omega)
    rcases (show d = 0 ∨ d = 1 by omega) with rfl | rfl
    · simp only [g, if_true]
      simp only [Nat.sub_zero, Nat.mul_one, Nat.mul_zero, Nat.add_zero] at a1 a2 b1 b2
      clear g hl hz hc sc rc
      generalize c % W = x at *
      generalize c / W = y at *
      omega
    · simp only [g, if_neg (show ¬ (1 = 0) by decide)]
      simp only [Nat.mul_one, Nat.sub_self, Nat.mul_zero, Nat.add_zero, Nat.zero_mul] at a1 a2 b1 b2
      clear g hl hz hc sc rc
      generalize c % W = x at *
      generalize c / W = y at *
      omega
