/-! PURE PART: states in a normal form; numbers. -/
theorem so_i (u : zz_St) (k : Nat) (x y : Int32) : ss_i (ss_i u k x) k y = ss_i u k y := by
  refine Prod.ext (funext fun j => ?_) rfl
  show (if j = k then y else if j = k then x else u.1 j) = (if j = k then y else u.1 j)
  split <;> rfl
theorem so_l (u : zz_St) (k : Nat) (x y : Int64) : ss_l (ss_l u k x) k y = ss_l u k y := by
  refine Prod.ext rfl (Prod.ext (funext fun j => ?_) rfl)
  show (if j = k then y else if j = k then x else u.2.1 j) = (if j = k then y else u.2.1 j)
  split <;> rfl
theorem so_a (u : zz_St) (k : Nat) (x y : Nat → Int32) : ss_a (ss_a u k x) k y = ss_a u k y := by
  refine Prod.ext rfl (Prod.ext rfl (Prod.ext (funext fun j => ?_) rfl))
  show (if j = k then y else if j = k then x else u.2.2.1 j) = (if j = k then y else u.2.2.1 j)
  split <;> rfl
theorem so_b (u : zz_St) (k : Nat) (x y : Nat → Int64) : ss_b (ss_b u k x) k y = ss_b u k y := by
  refine Prod.ext rfl (Prod.ext rfl (Prod.ext rfl (funext fun j => ?_)))
  show (if j = k then y else if j = k then x else u.2.2.2 j) = (if j = k then y else u.2.2.2 j)
  split <;> rfl
theorem zz_swap {α : Type} (f : Nat → α) {j k : Nat} (x y : α) (h : j < k) (i : Nat) : (if i = j then y else if i = k then x else f i) = (if i = k then x else if i = j then y else f i) := by
  by_cases h1 : i = j
  · have h2 : ¬ i = k := by omega
    simp [h1, show ¬ j = k by omega]
  · simp [h1]
theorem sc_i (u : zz_St) {j k : Nat} (x y : Int32) (h : j < k) : ss_i (ss_i u k x) j y = ss_i (ss_i u j y) k x := Prod.ext (funext fun i => zz_swap u.1 x y h i) rfl
theorem sc_l (u : zz_St) {j k : Nat} (x y : Int64) (h : j < k) : ss_l (ss_l u k x) j y = ss_l (ss_l u j y) k x := Prod.ext rfl (Prod.ext (funext fun i => zz_swap u.2.1 x y h i) rfl)
theorem sc_a (u : zz_St) {j k : Nat} (x y : Nat → Int32) (h : j < k) : ss_a (ss_a u k x) j y = ss_a (ss_a u j y) k x := Prod.ext rfl (Prod.ext rfl (Prod.ext (funext fun i => zz_swap u.2.2.1 x y h i) rfl))
theorem sc_b (u : zz_St) {j k : Nat} (x y : Nat → Int64) (h : j < k) : ss_b (ss_b u k x) j y = ss_b (ss_b u j y) k x := Prod.ext rfl (Prod.ext rfl (Prod.ext rfl (funext fun i => zz_swap u.2.2.2 x y h i)))
theorem sd_li (u : zz_St) (j k : Nat) (x : Int64) (y : Int32) : ss_i (ss_l u k x) j y = ss_l (ss_i u j y) k x := rfl
theorem sd_ai (u : zz_St) (j k : Nat) (x : Nat → Int32) (y : Int32) : ss_i (ss_a u k x) j y = ss_a (ss_i u j y) k x := rfl
theorem sd_bi (u : zz_St) (j k : Nat) (x : Nat → Int64) (y : Int32) : ss_i (ss_b u k x) j y = ss_b (ss_i u j y) k x := rfl
theorem sd_al (u : zz_St) (j k : Nat) (x : Nat → Int32) (y : Int64) : ss_l (ss_a u k x) j y = ss_a (ss_l u j y) k x := rfl
theorem sd_bl (u : zz_St) (j k : Nat) (x : Nat → Int64) (y : Int64) : ss_l (ss_b u k x) j y = ss_b (ss_l u j y) k x := rfl
theorem sd_ba (u : zz_St) (j k : Nat) (x : Nat → Int64) (y : Nat → Int32) : ss_a (ss_b u k x) j y = ss_b (ss_a u j y) k x := rfl
/-- none or a number -/
def oI (o : Option Nat) : Int32 := match o with | none => -1 | some w => nI w
theorem nI_nm1 {n : Nat} (h : n < 2 ^ 31) : ¬ nI n = -1 := by
  intro e
  have := congrArg Int32.toInt e
  rw [nI_toInt h] at this
  have h2 : (-1 : Int32).toInt = -1 := rfl
  rw [h2] at this
  omega
theorem oI_none : oI none = -1 := rfl
theorem oI_some (w : Nat) : oI (some w) = nI w := rfl
/-- an int is a small natural, or lies outside -/
theorem nI_cases (x : Int32) (n : Nat) (hn : n < 2 ^ 31) : (∃ j : Nat, j < n ∧ x = nI j) ∨ (x < 0 ∨ nI n ≤ x) := by
  rcases pk_ix x hn with h | h | h
  · exact Or.inr (Or.inl h)
  · exact Or.inr (Or.inr h)
  · exact Or.inl h
theorem nI_inj {a b : Nat} (ha : a < 2 ^ 31) (hb : b < 2 ^ 31) (h : nI a = nI b) : a = b := (nI_eq ha hb).mp h
/-! the parts of the abstract state, over the components -/
def rG (W H : Nat) (bl : Nat → Nat) (iw ih : Int32) (a : Nat → Int32) : Prop := 1 ≤ W ∧ W ≤ 6 ∧ 1 ≤ H ∧ H ≤ 6 ∧ iw = nI W ∧ ih = nI H ∧ ∀ c, c < 36 → a c = nI (bl c) ∧ bl c ≤ 1
def rK (cn : Nat) (cl : Nat → Nat) (i : Int32) (a : Nat → Int32) : Prop := cn ≤ 6 ∧ i = nI cn ∧ ∀ p, p < cn → a p = nI (cl p) ∧ 97 ≤ cl p ∧ cl p ≤ 122
def rW (n : Nat) (len : Nat → Nat) (lt : Nat → Nat → Nat) (sc : Nat → Nat) (i : Int32) (al as_ at_ : Nat → Int32) : Prop := n ≤ 80 ∧ i = nI n ∧ ∀ w, w < n → 2 ≤ len w ∧ len w ≤ 6 ∧ sc w ≤ 1000 ∧ al w = nI (len w) ∧ as_ w = nI (sc w) ∧ ∀ p, p < len w → at_ (w * 6 + p) = nI (lt w p) ∧ 97 ≤ lt w p ∧ lt w p ≤ 122
def rV (gv : Nat → Nat) (a : Nat → Int32) : Prop := ∀ c, c < 36 → a c = nI (gv c) ∧ (gv c = 0 ∨ 97 ≤ gv c ∧ gv c ≤ 122)
theorem rK_add {cn : Nat} {cl : Nat → Nat} {i : Int32} {a : Nat → Int32} {x : Nat} (h : rK cn cl i a) (hc : cn < 6) (h1 : 97 ≤ x) (h2 : x ≤ 122) : rK (cn + 1) (fun p => if p = cn then x else cl p) (nI (cn + 1)) (upd a cn (nI x)) := by
  refine ⟨by omega, rfl, fun p hp => ?_⟩
  by_cases e : p = cn
  · subst e
    simp [upd, h1, h2]
  · simp [upd, e]
    exact h.2.2 p (by omega)
/-! unit -/
theorem sp_X_isLetter {a0 : Int32} {u : zz_St} {post : Int32 → zz_St → Prop} (h1 : ∀ x : Nat, 97 ≤ x → x ≤ 122 → a0 = nI x → post 1 u) (h0 : (¬ ∃ x : Nat, 97 ≤ x ∧ x ≤ 122 ∧ a0 = nI x) → post 0 u) : wp_X_isLetter a0 u post := by
  have key : ∀ {P : Prop}, (a0 < 97 ∨ 122 < a0 → P) → (∀ x : Nat, 97 ≤ x → x ≤ 122 → a0 = nI x → P) → P := by
    intro P k0 k1
    by_cases c1 : a0 < 97
    · exact k0 (Or.inl c1)
    · by_cases c2 : 122 < a0
      · exact k0 (Or.inr c2)
      · obtain ⟨j, hj, rfl⟩ := nI_of (x := a0) (fun q => c1 (Int32.lt_trans q (by decide)))
        have e1 := (not_congr (nI_ltI (a := j) (b := 97) hj (by omega))).mp c1
        have e2 := (not_congr (nI_ltI (a := 122) (b := j) (by omega) hj)).mp c2
        exact k1 j (by omega) (by omega) rfl
  refine ⟨fun c1 => h0 ?_, fun c1 => ⟨fun c2 => h0 ?_, fun c2 => key (fun q => absurd q (by rintro (q | q) <;> contradiction)) h1⟩⟩
  · rintro ⟨x, q1, q2, rfl⟩
    exact absurd ((nI_ltI (a := x) (b := 97) (by omega) (by omega)).mp c1) (by omega)
  · rintro ⟨x, q1, q2, rfl⟩
    exact absurd ((nI_ltI (a := 122) (b := x) (by omega) (by omega)).mp c2) (by omega)
theorem sp_M_isLetter {a0 : Int32} {u : zz_St} {post : Int32 → zz_St → Prop} (h1 : ∀ x : Nat, 97 ≤ x → x ≤ 122 → a0 = nI x → post 1 u) (h0 : (¬ ∃ x : Nat, 97 ≤ x ∧ x ≤ 122 ∧ a0 = nI x) → post 0 u) : wp_M_isLetter a0 u post := sp_X_isLetter h1 h0
theorem sp_X_unit {a0 : Int32} {u : zz_St} {post : Int32 → zz_St → Prop} {cn : Nat} {cl : Nat → Nat} (hK : rK cn cl (sg_i u 5) (sg_a u 14))
    (h1 : ∀ x : Nat, 97 ≤ x → x ≤ 122 → a0 = nI x → cn < 6 → post 1 (ss_a (ss_i u 5 (nI (cn + 1))) 14 (upd (sg_a u 14) cn (nI x)))) (h0 : (¬ ((∃ x : Nat, 97 ≤ x ∧ x ≤ 122 ∧ a0 = nI x) ∧ cn < 6)) → post 0 u) : wp_X_unit a0 u post := by
  obtain ⟨k1, k2, k3⟩ := id hK
  refine sp_X_isLetter (fun x q1 q2 e => ?_) (fun q => ?_)
  · refine ⟨fun c => absurd c (by decide), fun _ => ?_⟩
    unfold wp_L_collect
    rw [k2]
    refine pk_lt cn 6 (fun c => ⟨pk_in cn 6 c, fun v ev => ?_⟩) (fun c => ?_)
    · refine ⟨fun c => absurd c (by decide), fun _ => ?_⟩
      rw [ev, pk_cl cn, nI_1, e]
      exact h1 x q1 q2 e c
    · exact ⟨fun _ => h0 (by omega), fun c => absurd rfl c⟩
  · exact ⟨fun _ => h0 (fun z => q z.1), fun c => absurd rfl c⟩
theorem sp_M_unit {a0 : Int32} {u : zz_St} {post : Int32 → zz_St → Prop} {cn : Nat} {cl : Nat → Nat} (hK : rK cn cl (sg_i u 3) (sg_a u 2))
    (h1 : ∀ x : Nat, 97 ≤ x → x ≤ 122 → a0 = nI x → cn < 6 → post 1 (ss_a (ss_i (ss_i u 0 0) 3 (nI (cn + 1))) 2 (upd (sg_a u 2) cn (nI x)))) (h0 : (¬ ((∃ x : Nat, 97 ≤ x ∧ x ≤ 122 ∧ a0 = nI x) ∧ cn < 6)) → post 0 (ss_i u 0 0)) : wp_M_unit a0 u post := by
  obtain ⟨k1, k2, k3⟩ := id hK
  refine sp_M_isLetter (fun x q1 q2 e => ?_) (fun q => ?_)
  · refine ⟨fun c => absurd c (by decide), fun _ => ?_⟩
    simp (decide := true) only [sx_il, sx_ia, sx_ib, sy_i, sz_i, sx_li, sx_la, sx_lb, sy_l, sz_l, sx_ai, sx_al, sx_ab, sy_a, sz_a, sx_bi, sx_bl, sx_ba, sy_b, sz_b]
    rw [k2]
    refine pk_eq cn 6 (fun c => h0 (by omega)) (fun c => ⟨pk_in cn 6 (by omega), fun v ev => ?_⟩)
    rw [ev, pk_cl cn, nI_1, e]
    exact h1 x q1 q2 e (by omega)
  · exact ⟨fun _ => h0 (fun z => q z.1), fun c => absurd rfl c⟩
