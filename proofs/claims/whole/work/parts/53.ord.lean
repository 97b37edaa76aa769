def insW (sc : Nat → Nat) (w : Nat) : List Nat → List Nat
  | [] => [w]
  | x :: t => if sc x < sc w then w :: x :: t else x :: insW sc w t
def ordW (sc : Nat → Nat) : Nat → List Nat
  | 0 => []
  | n + 1 => insW sc n (ordW sc n)
def dsc (sc : Nat → Nat) (l : List Nat) : Prop := l.Pairwise (fun a b => sc b ≤ sc a)
theorem insW_mem {sc : Nat → Nat} {w a : Nat} : ∀ {l : List Nat}, a ∈ insW sc w l ↔ a = w ∨ a ∈ l := by
  intro l
  induction l with
  | nil => simp [insW]
  | cons x t ih =>
    unfold insW
    split
    · simp
    · simp [ih]
      constructor
      · rintro (h | h | h) <;> simp [h]
      · rintro (h | h | h) <;> simp [h]
theorem insW_len {sc : Nat → Nat} {w : Nat} : ∀ {l : List Nat}, (insW sc w l).length = l.length + 1 := by
  intro l
  induction l with
  | nil => rfl
  | cons x t ih =>
    unfold insW
    split
    · rfl
    · simp [ih]
theorem insW_dsc {sc : Nat → Nat} {w : Nat} : ∀ {l : List Nat}, dsc sc l → dsc sc (insW sc w l) := by
  intro l
  induction l with
  | nil => intro _; simp [insW, dsc]
  | cons x t ih =>
    intro h
    unfold insW
    unfold dsc at h ⊢
    rw [List.pairwise_cons] at h
    split
    · rename_i q
      refine List.pairwise_cons.mpr ⟨fun b hb => ?_, List.pairwise_cons.mpr h⟩
      rcases List.mem_cons.mp hb with rfl | hb
      · omega
      · have := h.1 b hb; omega
    · rename_i q
      refine List.pairwise_cons.mpr ⟨fun b hb => ?_, ih h.2⟩
      rcases insW_mem.mp hb with rfl | hb
      · omega
      · exact h.1 b hb
theorem insW_nodup {sc : Nat → Nat} {w : Nat} : ∀ {l : List Nat}, w ∉ l → l.Nodup → (insW sc w l).Nodup := by
  intro l
  induction l with
  | nil => intro _ _; simp [insW]
  | cons x t ih =>
    intro h1 h2
    rw [List.nodup_cons] at h2
    unfold insW
    split
    · exact List.nodup_cons.mpr ⟨h1, List.nodup_cons.mpr h2⟩
    · refine List.nodup_cons.mpr ⟨fun q => ?_, ih (fun q => h1 (List.mem_cons_of_mem _ q)) h2.2⟩
      rcases insW_mem.mp q with rfl | q
      · exact h1 List.mem_cons_self
      · exact h2.1 q
theorem ordW_mem {sc : Nat → Nat} {a : Nat} : ∀ {n : Nat}, a ∈ ordW sc n ↔ a < n := by
  intro n
  induction n with
  | zero => simp [ordW]
  | succ n ih =>
    rw [ordW, insW_mem, ih]
    omega
theorem ordW_len {sc : Nat → Nat} : ∀ {n : Nat}, (ordW sc n).length = n := by
  intro n
  induction n with
  | zero => rfl
  | succ n ih => rw [ordW, insW_len, ih]
theorem ordW_dsc {sc : Nat → Nat} : ∀ {n : Nat}, dsc sc (ordW sc n) := by
  intro n
  induction n with
  | zero => simp [ordW, dsc]
  | succ n ih => exact insW_dsc ih
theorem ordW_nodup {sc : Nat → Nat} : ∀ {n : Nat}, (ordW sc n).Nodup := by
  intro n
  induction n with
  | zero => simp [ordW]
  | succ n ih => exact insW_nodup (fun q => by have := ordW_mem.mp q; omega) ih
theorem insW_congr {sc sc' : Nat → Nat} {w : Nat} (hw : sc w = sc' w) : ∀ {l : List Nat}, (∀ a ∈ l, sc a = sc' a) → insW sc w l = insW sc' w l := by
  intro l
  induction l with
  | nil => intro _; rfl
  | cons x t ih =>
    intro h
    unfold insW
    rw [h x List.mem_cons_self, hw, ih (fun a ha => h a (List.mem_cons_of_mem _ ha))]
theorem ordW_congr {sc sc' : Nat → Nat} : ∀ {n : Nat}, (∀ a, a < n → sc a = sc' a) → ordW sc n = ordW sc' n := by
  intro n
  induction n with
  | zero => intro _; rfl
  | succ n ih =>
    intro h
    rw [ordW, ordW, ih (fun a ha => h a (by omega))]
    exact insW_congr (h n (Nat.lt_succ_self n)) (fun a ha => h a (by have := ordW_mem.mp ha; omega))
theorem insW_at {sc : Nat → Nat} {w : Nat} : ∀ {l : List Nat} {j : Nat}, j ≤ l.length → (∀ i a, i < j → l[i]? = some a → ¬ sc a < sc w) → (∀ a, l[j]? = some a → sc a < sc w) → insW sc w l = l.take j ++ w :: l.drop j := by
  intro l
  induction l with
  | nil => intro j hj _ _; have : j = 0 := by simpa using hj
           subst this; rfl
  | cons x t ih =>
    intro j hj h1 h2
    cases j with
    | zero =>
      unfold insW
      rw [if_pos (h2 x rfl)]
      rfl
    | succ j =>
      unfold insW
      rw [if_neg (h1 0 x (by omega) rfl), ih (j := j) (by simpa using hj) (fun i a hi ha => h1 (i + 1) a (by omega) (by simpa using ha)) (fun a ha => h2 a (by simpa using ha))]
      rfl
theorem take_drop_get {l : List Nat} {w j r : Nat} (hj : j ≤ l.length) : (l.take j ++ w :: l.drop j)[r]? = if r < j then l[r]? else if r = j then some w else l[r - 1]? := by
  have hlen : (l.take j).length = j := by rw [List.length_take]; omega
  by_cases h : r < j
  · rw [if_pos h, List.getElem?_append_left (by omega), List.getElem?_take_of_lt h]
  · rw [if_neg h, List.getElem?_append_right (by omega), hlen]
    by_cases e : r = j
    · rw [if_pos e, e, Nat.sub_self]
      rfl
    · rw [if_neg e, show r - j = (r - j - 1) + 1 by omega, List.getElem?_cons_succ, List.getElem?_drop]
      congr 1
      omega
theorem insW_cons (sc : Nat → Nat) (w x : Nat) (t : List Nat) : insW sc w (x :: t) = if sc x < sc w then w :: x :: t else x :: insW sc w t := rfl
theorem insW_filter {sc : Nat → Nat} {w : Nat} {p : Nat → Bool} : ∀ {l : List Nat}, dsc sc l → (insW sc w l).filter p = if p w = true then insW sc w (l.filter p) else l.filter p := by
  intro l
  induction l with
  | nil => intro _; by_cases h : p w = true <;> simp [insW, h]
  | cons x t ih =>
    intro hd
    unfold dsc at hd
    rw [List.pairwise_cons] at hd
    rw [insW_cons]
    by_cases hx : sc x < sc w
    · rw [if_pos hx]
      by_cases hw : p w = true
      · rw [if_pos hw, List.filter_cons_of_pos hw]
        by_cases hpx : p x = true
        · rw [List.filter_cons_of_pos hpx, insW_cons, if_pos hx]
        · rw [List.filter_cons_of_neg hpx]
          cases hf : t.filter p with
          | nil => rfl
          | cons y s =>
            have hy : y ∈ t := (List.mem_filter.mp (by rw [hf]; exact List.mem_cons_self)).1
            have := hd.1 y hy
            rw [insW_cons, if_pos (by omega)]
      · rw [if_neg hw, List.filter_cons_of_neg hw]
    · rw [if_neg hx]
      by_cases hpx : p x = true
      · rw [List.filter_cons_of_pos hpx, List.filter_cons_of_pos hpx, ih hd.2]
        by_cases hw : p w = true
        · rw [if_pos hw, if_pos hw, insW_cons, if_neg hx]
        · rw [if_neg hw, if_neg hw]
      · rw [List.filter_cons_of_neg hpx, List.filter_cons_of_neg hpx, ih hd.2]
