theorem so_i (u : zz_St) (k : Nat) (x y : Int32) : ss_i (ss_i u k x) k y = ss_i u k y := by
  refine Prod.ext (funext fun j => ?_) rfl
  show (if j = k then y else if j = k then x else u.1 j) = (if j = k then y else u.1 j)
  split <;> rfl
theorem so_l (u : zz_St) (k : Nat) (x y : Int64) : ss_l (ss_l u k x) k y = ss_l u k y := by
  refine Prod.ext rfl (Prod.ext (funext fun j => ?_) rfl)
  show (if j = k then y else if j = k then x else u.2.1 j) = (if j = k then y else u.2.1 j)
  split <;> rfl
theorem so_a (u : zz_St) (k : Nat) (x y : Nat → Int32) : ss_a (ss_a u k x) k y = ss_a u k y := by
  refine Prod.ext rfl (Prod.ext rfl (Prod.ext (funext fun j => ?_) rfl))
  show (if j = k then y else if j = k then x else u.2.2.1 j) = (if j = k then y else u.2.2.1 j)
  split <;> rfl
theorem so_b (u : zz_St) (k : Nat) (x y : Nat → Int64) : ss_b (ss_b u k x) k y = ss_b u k y := by
  refine Prod.ext rfl (Prod.ext rfl (Prod.ext rfl (funext fun j => ?_)))
  show (if j = k then y else if j = k then x else u.2.2.2 j) = (if j = k then y else u.2.2.2 j)
  split <;> rfl
theorem zz_swap {α : Type} (f : Nat → α) {j k : Nat} (x y : α) (h : j < k) (i : Nat) : (if i = j then y else if i = k then x else f i) = (if i = k then x else if i = j then y else f i) := by
  by_cases h1 : i = j
  · have h2 : ¬ i = k := by omega
    simp [h1, show ¬ j = k by omega]
  · simp [h1]
theorem sc_i (u : zz_St) {j k : Nat} (x y : Int32) (h : j < k) : ss_i (ss_i u k x) j y = ss_i (ss_i u j y) k x := Prod.ext (funext fun i => zz_swap u.1 x y h i) rfl
theorem sc_l (u : zz_St) {j k : Nat} (x y : Int64) (h : j < k) : ss_l (ss_l u k x) j y = ss_l (ss_l u j y) k x := Prod.ext rfl (Prod.ext (funext fun i => zz_swap u.2.1 x y h i) rfl)
theorem sc_a (u : zz_St) {j k : Nat} (x y : Nat → Int32) (h : j < k) : ss_a (ss_a u k x) j y = ss_a (ss_a u j y) k x := Prod.ext rfl (Prod.ext rfl (Prod.ext (funext fun i => zz_swap u.2.2.1 x y h i) rfl))
theorem sc_b (u : zz_St) {j k : Nat} (x y : Nat → Int64) (h : j < k) : ss_b (ss_b u k x) j y = ss_b (ss_b u j y) k x := Prod.ext rfl (Prod.ext rfl (Prod.ext rfl (funext fun i => zz_swap u.2.2.2 x y h i)))
theorem sd_li (u : zz_St) (j k : Nat) (x : Int64) (y : Int32) : ss_i (ss_l u k x) j y = ss_l (ss_i u j y) k x := rfl
theorem sd_ai (u : zz_St) (j k : Nat) (x : Nat → Int32) (y : Int32) : ss_i (ss_a u k x) j y = ss_a (ss_i u j y) k x := rfl
theorem sd_bi (u : zz_St) (j k : Nat) (x : Nat → Int64) (y : Int32) : ss_i (ss_b u k x) j y = ss_b (ss_i u j y) k x := rfl
theorem sd_al (u : zz_St) (j k : Nat) (x : Nat → Int32) (y : Int64) : ss_l (ss_a u k x) j y = ss_a (ss_l u j y) k x := rfl
theorem sd_bl (u : zz_St) (j k : Nat) (x : Nat → Int64) (y : Int64) : ss_l (ss_b u k x) j y = ss_b (ss_l u j y) k x := rfl
theorem sd_ba (u : zz_St) (j k : Nat) (x : Nat → Int64) (y : Nat → Int32) : ss_a (ss_b u k x) j y = ss_b (ss_a u j y) k x := rfl
theorem sci_0_1 (u : zz_St) (x y : Int32) : ss_i (ss_i u 1 x) 0 y = ss_i (ss_i u 0 y) 1 x := sc_i u x y (by decide)
theorem sci_0_2 (u : zz_St) (x y : Int32) : ss_i (ss_i u 2 x) 0 y = ss_i (ss_i u 0 y) 2 x := sc_i u x y (by decide)
theorem sci_1_2 (u : zz_St) (x y : Int32) : ss_i (ss_i u 2 x) 1 y = ss_i (ss_i u 1 y) 2 x := sc_i u x y (by decide)
theorem sci_0_3 (u : zz_St) (x y : Int32) : ss_i (ss_i u 3 x) 0 y = ss_i (ss_i u 0 y) 3 x := sc_i u x y (by decide)
theorem sci_1_3 (u : zz_St) (x y : Int32) : ss_i (ss_i u 3 x) 1 y = ss_i (ss_i u 1 y) 3 x := sc_i u x y (by decide)
theorem sci_2_3 (u : zz_St) (x y : Int32) : ss_i (ss_i u 3 x) 2 y = ss_i (ss_i u 2 y) 3 x := sc_i u x y (by decide)
theorem sci_0_4 (u : zz_St) (x y : Int32) : ss_i (ss_i u 4 x) 0 y = ss_i (ss_i u 0 y) 4 x := sc_i u x y (by decide)
theorem sci_1_4 (u : zz_St) (x y : Int32) : ss_i (ss_i u 4 x) 1 y = ss_i (ss_i u 1 y) 4 x := sc_i u x y (by decide)
theorem sci_2_4 (u : zz_St) (x y : Int32) : ss_i (ss_i u 4 x) 2 y = ss_i (ss_i u 2 y) 4 x := sc_i u x y (by decide)
theorem sci_3_4 (u : zz_St) (x y : Int32) : ss_i (ss_i u 4 x) 3 y = ss_i (ss_i u 3 y) 4 x := sc_i u x y (by decide)
theorem sci_0_5 (u : zz_St) (x y : Int32) : ss_i (ss_i u 5 x) 0 y = ss_i (ss_i u 0 y) 5 x := sc_i u x y (by decide)
theorem sci_1_5 (u : zz_St) (x y : Int32) : ss_i (ss_i u 5 x) 1 y = ss_i (ss_i u 1 y) 5 x := sc_i u x y (by decide)
theorem sci_2_5 (u : zz_St) (x y : Int32) : ss_i (ss_i u 5 x) 2 y = ss_i (ss_i u 2 y) 5 x := sc_i u x y (by decide)
theorem sci_3_5 (u : zz_St) (x y : Int32) : ss_i (ss_i u 5 x) 3 y = ss_i (ss_i u 3 y) 5 x := sc_i u x y (by decide)
theorem sci_4_5 (u : zz_St) (x y : Int32) : ss_i (ss_i u 5 x) 4 y = ss_i (ss_i u 4 y) 5 x := sc_i u x y (by decide)
theorem sci_0_6 (u : zz_St) (x y : Int32) : ss_i (ss_i u 6 x) 0 y = ss_i (ss_i u 0 y) 6 x := sc_i u x y (by decide)
theorem sci_1_6 (u : zz_St) (x y : Int32) : ss_i (ss_i u 6 x) 1 y = ss_i (ss_i u 1 y) 6 x := sc_i u x y (by decide)
theorem sci_2_6 (u : zz_St) (x y : Int32) : ss_i (ss_i u 6 x) 2 y = ss_i (ss_i u 2 y) 6 x := sc_i u x y (by decide)
theorem sci_3_6 (u : zz_St) (x y : Int32) : ss_i (ss_i u 6 x) 3 y = ss_i (ss_i u 3 y) 6 x := sc_i u x y (by decide)
theorem sci_4_6 (u : zz_St) (x y : Int32) : ss_i (ss_i u 6 x) 4 y = ss_i (ss_i u 4 y) 6 x := sc_i u x y (by decide)
theorem sci_5_6 (u : zz_St) (x y : Int32) : ss_i (ss_i u 6 x) 5 y = ss_i (ss_i u 5 y) 6 x := sc_i u x y (by decide)
theorem sci_0_7 (u : zz_St) (x y : Int32) : ss_i (ss_i u 7 x) 0 y = ss_i (ss_i u 0 y) 7 x := sc_i u x y (by decide)
theorem sci_1_7 (u : zz_St) (x y : Int32) : ss_i (ss_i u 7 x) 1 y = ss_i (ss_i u 1 y) 7 x := sc_i u x y (by decide)
theorem sci_2_7 (u : zz_St) (x y : Int32) : ss_i (ss_i u 7 x) 2 y = ss_i (ss_i u 2 y) 7 x := sc_i u x y (by decide)
theorem sci_3_7 (u : zz_St) (x y : Int32) : ss_i (ss_i u 7 x) 3 y = ss_i (ss_i u 3 y) 7 x := sc_i u x y (by decide)
theorem sci_4_7 (u : zz_St) (x y : Int32) : ss_i (ss_i u 7 x) 4 y = ss_i (ss_i u 4 y) 7 x := sc_i u x y (by decide)
theorem sci_5_7 (u : zz_St) (x y : Int32) : ss_i (ss_i u 7 x) 5 y = ss_i (ss_i u 5 y) 7 x := sc_i u x y (by decide)
theorem sci_6_7 (u : zz_St) (x y : Int32) : ss_i (ss_i u 7 x) 6 y = ss_i (ss_i u 6 y) 7 x := sc_i u x y (by decide)
theorem sci_0_8 (u : zz_St) (x y : Int32) : ss_i (ss_i u 8 x) 0 y = ss_i (ss_i u 0 y) 8 x := sc_i u x y (by decide)
theorem sci_1_8 (u : zz_St) (x y : Int32) : ss_i (ss_i u 8 x) 1 y = ss_i (ss_i u 1 y) 8 x := sc_i u x y (by decide)
theorem sci_2_8 (u : zz_St) (x y : Int32) : ss_i (ss_i u 8 x) 2 y = ss_i (ss_i u 2 y) 8 x := sc_i u x y (by decide)
theorem sci_3_8 (u : zz_St) (x y : Int32) : ss_i (ss_i u 8 x) 3 y = ss_i (ss_i u 3 y) 8 x := sc_i u x y (by decide)
theorem sci_4_8 (u : zz_St) (x y : Int32) : ss_i (ss_i u 8 x) 4 y = ss_i (ss_i u 4 y) 8 x := sc_i u x y (by decide)
theorem sci_5_8 (u : zz_St) (x y : Int32) : ss_i (ss_i u 8 x) 5 y = ss_i (ss_i u 5 y) 8 x := sc_i u x y (by decide)
theorem sci_6_8 (u : zz_St) (x y : Int32) : ss_i (ss_i u 8 x) 6 y = ss_i (ss_i u 6 y) 8 x := sc_i u x y (by decide)
theorem sci_7_8 (u : zz_St) (x y : Int32) : ss_i (ss_i u 8 x) 7 y = ss_i (ss_i u 7 y) 8 x := sc_i u x y (by decide)
theorem sci_0_9 (u : zz_St) (x y : Int32) : ss_i (ss_i u 9 x) 0 y = ss_i (ss_i u 0 y) 9 x := sc_i u x y (by decide)
theorem sci_1_9 (u : zz_St) (x y : Int32) : ss_i (ss_i u 9 x) 1 y = ss_i (ss_i u 1 y) 9 x := sc_i u x y (by decide)
theorem sci_2_9 (u : zz_St) (x y : Int32) : ss_i (ss_i u 9 x) 2 y = ss_i (ss_i u 2 y) 9 x := sc_i u x y (by decide)
theorem sci_3_9 (u : zz_St) (x y : Int32) : ss_i (ss_i u 9 x) 3 y = ss_i (ss_i u 3 y) 9 x := sc_i u x y (by decide)
theorem sci_4_9 (u : zz_St) (x y : Int32) : ss_i (ss_i u 9 x) 4 y = ss_i (ss_i u 4 y) 9 x := sc_i u x y (by decide)
theorem sci_5_9 (u : zz_St) (x y : Int32) : ss_i (ss_i u 9 x) 5 y = ss_i (ss_i u 5 y) 9 x := sc_i u x y (by decide)
theorem sci_6_9 (u : zz_St) (x y : Int32) : ss_i (ss_i u 9 x) 6 y = ss_i (ss_i u 6 y) 9 x := sc_i u x y (by decide)
theorem sci_7_9 (u : zz_St) (x y : Int32) : ss_i (ss_i u 9 x) 7 y = ss_i (ss_i u 7 y) 9 x := sc_i u x y (by decide)
theorem sci_8_9 (u : zz_St) (x y : Int32) : ss_i (ss_i u 9 x) 8 y = ss_i (ss_i u 8 y) 9 x := sc_i u x y (by decide)
theorem sci_0_10 (u : zz_St) (x y : Int32) : ss_i (ss_i u 10 x) 0 y = ss_i (ss_i u 0 y) 10 x := sc_i u x y (by decide)
theorem sci_1_10 (u : zz_St) (x y : Int32) : ss_i (ss_i u 10 x) 1 y = ss_i (ss_i u 1 y) 10 x := sc_i u x y (by decide)
theorem sci_2_10 (u : zz_St) (x y : Int32) : ss_i (ss_i u 10 x) 2 y = ss_i (ss_i u 2 y) 10 x := sc_i u x y (by decide)
theorem sci_3_10 (u : zz_St) (x y : Int32) : ss_i (ss_i u 10 x) 3 y = ss_i (ss_i u 3 y) 10 x := sc_i u x y (by decide)
theorem sci_4_10 (u : zz_St) (x y : Int32) : ss_i (ss_i u 10 x) 4 y = ss_i (ss_i u 4 y) 10 x := sc_i u x y (by decide)
theorem sci_5_10 (u : zz_St) (x y : Int32) : ss_i (ss_i u 10 x) 5 y = ss_i (ss_i u 5 y) 10 x := sc_i u x y (by decide)
theorem sci_6_10 (u : zz_St) (x y : Int32) : ss_i (ss_i u 10 x) 6 y = ss_i (ss_i u 6 y) 10 x := sc_i u x y (by decide)
theorem sci_7_10 (u : zz_St) (x y : Int32) : ss_i (ss_i u 10 x) 7 y = ss_i (ss_i u 7 y) 10 x := sc_i u x y (by decide)
theorem sci_8_10 (u : zz_St) (x y : Int32) : ss_i (ss_i u 10 x) 8 y = ss_i (ss_i u 8 y) 10 x := sc_i u x y (by decide)
theorem sci_9_10 (u : zz_St) (x y : Int32) : ss_i (ss_i u 10 x) 9 y = ss_i (ss_i u 9 y) 10 x := sc_i u x y (by decide)
theorem sci_0_11 (u : zz_St) (x y : Int32) : ss_i (ss_i u 11 x) 0 y = ss_i (ss_i u 0 y) 11 x := sc_i u x y (by decide)
theorem sci_1_11 (u : zz_St) (x y : Int32) : ss_i (ss_i u 11 x) 1 y = ss_i (ss_i u 1 y) 11 x := sc_i u x y (by decide)
theorem sci_2_11 (u : zz_St) (x y : Int32) : ss_i (ss_i u 11 x) 2 y = ss_i (ss_i u 2 y) 11 x := sc_i u x y (by decide)
theorem sci_3_11 (u : zz_St) (x y : Int32) : ss_i (ss_i u 11 x) 3 y = ss_i (ss_i u 3 y) 11 x := sc_i u x y (by decide)
theorem sci_4_11 (u : zz_St) (x y : Int32) : ss_i (ss_i u 11 x) 4 y = ss_i (ss_i u 4 y) 11 x := sc_i u x y (by decide)
theorem sci_5_11 (u : zz_St) (x y : Int32) : ss_i (ss_i u 11 x) 5 y = ss_i (ss_i u 5 y) 11 x := sc_i u x y (by decide)
theorem sci_6_11 (u : zz_St) (x y : Int32) : ss_i (ss_i u 11 x) 6 y = ss_i (ss_i u 6 y) 11 x := sc_i u x y (by decide)
theorem sci_7_11 (u : zz_St) (x y : Int32) : ss_i (ss_i u 11 x) 7 y = ss_i (ss_i u 7 y) 11 x := sc_i u x y (by decide)
theorem sci_8_11 (u : zz_St) (x y : Int32) : ss_i (ss_i u 11 x) 8 y = ss_i (ss_i u 8 y) 11 x := sc_i u x y (by decide)
theorem sci_9_11 (u : zz_St) (x y : Int32) : ss_i (ss_i u 11 x) 9 y = ss_i (ss_i u 9 y) 11 x := sc_i u x y (by decide)
theorem sci_10_11 (u : zz_St) (x y : Int32) : ss_i (ss_i u 11 x) 10 y = ss_i (ss_i u 10 y) 11 x := sc_i u x y (by decide)
theorem sci_0_12 (u : zz_St) (x y : Int32) : ss_i (ss_i u 12 x) 0 y = ss_i (ss_i u 0 y) 12 x := sc_i u x y (by decide)
theorem sci_1_12 (u : zz_St) (x y : Int32) : ss_i (ss_i u 12 x) 1 y = ss_i (ss_i u 1 y) 12 x := sc_i u x y (by decide)
theorem sci_2_12 (u : zz_St) (x y : Int32) : ss_i (ss_i u 12 x) 2 y = ss_i (ss_i u 2 y) 12 x := sc_i u x y (by decide)
theorem sci_3_12 (u : zz_St) (x y : Int32) : ss_i (ss_i u 12 x) 3 y = ss_i (ss_i u 3 y) 12 x := sc_i u x y (by decide)
theorem sci_4_12 (u : zz_St) (x y : Int32) : ss_i (ss_i u 12 x) 4 y = ss_i (ss_i u 4 y) 12 x := sc_i u x y (by decide)
theorem sci_5_12 (u : zz_St) (x y : Int32) : ss_i (ss_i u 12 x) 5 y = ss_i (ss_i u 5 y) 12 x := sc_i u x y (by decide)
theorem sci_6_12 (u : zz_St) (x y : Int32) : ss_i (ss_i u 12 x) 6 y = ss_i (ss_i u 6 y) 12 x := sc_i u x y (by decide)
theorem sci_7_12 (u : zz_St) (x y : Int32) : ss_i (ss_i u 12 x) 7 y = ss_i (ss_i u 7 y) 12 x := sc_i u x y (by decide)
theorem sci_8_12 (u : zz_St) (x y : Int32) : ss_i (ss_i u 12 x) 8 y = ss_i (ss_i u 8 y) 12 x := sc_i u x y (by decide)
theorem sci_9_12 (u : zz_St) (x y : Int32) : ss_i (ss_i u 12 x) 9 y = ss_i (ss_i u 9 y) 12 x := sc_i u x y (by decide)
theorem sci_10_12 (u : zz_St) (x y : Int32) : ss_i (ss_i u 12 x) 10 y = ss_i (ss_i u 10 y) 12 x := sc_i u x y (by decide)
theorem sci_11_12 (u : zz_St) (x y : Int32) : ss_i (ss_i u 12 x) 11 y = ss_i (ss_i u 11 y) 12 x := sc_i u x y (by decide)
theorem scl_0_1 (u : zz_St) (x y : Int64) : ss_l (ss_l u 1 x) 0 y = ss_l (ss_l u 0 y) 1 x := sc_l u x y (by decide)
theorem sca_0_1 (u : zz_St) (x y : Nat → Int32) : ss_a (ss_a u 1 x) 0 y = ss_a (ss_a u 0 y) 1 x := sc_a u x y (by decide)
theorem sca_0_2 (u : zz_St) (x y : Nat → Int32) : ss_a (ss_a u 2 x) 0 y = ss_a (ss_a u 0 y) 2 x := sc_a u x y (by decide)
theorem sca_1_2 (u : zz_St) (x y : Nat → Int32) : ss_a (ss_a u 2 x) 1 y = ss_a (ss_a u 1 y) 2 x := sc_a u x y (by decide)
theorem sca_0_3 (u : zz_St) (x y : Nat → Int32) : ss_a (ss_a u 3 x) 0 y = ss_a (ss_a u 0 y) 3 x := sc_a u x y (by decide)
theorem sca_1_3 (u : zz_St) (x y : Nat → Int32) : ss_a (ss_a u 3 x) 1 y = ss_a (ss_a u 1 y) 3 x := sc_a u x y (by decide)
theorem sca_2_3 (u : zz_St) (x y : Nat → Int32) : ss_a (ss_a u 3 x) 2 y = ss_a (ss_a u 2 y) 3 x := sc_a u x y (by decide)
theorem sca_0_4 (u : zz_St) (x y : Nat → Int32) : ss_a (ss_a u 4 x) 0 y = ss_a (ss_a u 0 y) 4 x := sc_a u x y (by decide)
theorem sca_1_4 (u : zz_St) (x y : Nat → Int32) : ss_a (ss_a u 4 x) 1 y = ss_a (ss_a u 1 y) 4 x := sc_a u x y (by decide)
theorem sca_2_4 (u : zz_St) (x y : Nat → Int32) : ss_a (ss_a u 4 x) 2 y = ss_a (ss_a u 2 y) 4 x := sc_a u x y (by decide)
theorem sca_3_4 (u : zz_St) (x y : Nat → Int32) : ss_a (ss_a u 4 x) 3 y = ss_a (ss_a u 3 y) 4 x := sc_a u x y (by decide)
theorem sca_0_5 (u : zz_St) (x y : Nat → Int32) : ss_a (ss_a u 5 x) 0 y = ss_a (ss_a u 0 y) 5 x := sc_a u x y (by decide)
theorem sca_1_5 (u : zz_St) (x y : Nat → Int32) : ss_a (ss_a u 5 x) 1 y = ss_a (ss_a u 1 y) 5 x := sc_a u x y (by decide)
theorem sca_2_5 (u : zz_St) (x y : Nat → Int32) : ss_a (ss_a u 5 x) 2 y = ss_a (ss_a u 2 y) 5 x := sc_a u x y (by decide)
theorem sca_3_5 (u : zz_St) (x y : Nat → Int32) : ss_a (ss_a u 5 x) 3 y = ss_a (ss_a u 3 y) 5 x := sc_a u x y (by decide)
theorem sca_4_5 (u : zz_St) (x y : Nat → Int32) : ss_a (ss_a u 5 x) 4 y = ss_a (ss_a u 4 y) 5 x := sc_a u x y (by decide)
theorem sca_0_6 (u : zz_St) (x y : Nat → Int32) : ss_a (ss_a u 6 x) 0 y = ss_a (ss_a u 0 y) 6 x := sc_a u x y (by decide)
theorem sca_1_6 (u : zz_St) (x y : Nat → Int32) : ss_a (ss_a u 6 x) 1 y = ss_a (ss_a u 1 y) 6 x := sc_a u x y (by decide)
theorem sca_2_6 (u : zz_St) (x y : Nat → Int32) : ss_a (ss_a u 6 x) 2 y = ss_a (ss_a u 2 y) 6 x := sc_a u x y (by decide)
theorem sca_3_6 (u : zz_St) (x y : Nat → Int32) : ss_a (ss_a u 6 x) 3 y = ss_a (ss_a u 3 y) 6 x := sc_a u x y (by decide)
theorem sca_4_6 (u : zz_St) (x y : Nat → Int32) : ss_a (ss_a u 6 x) 4 y = ss_a (ss_a u 4 y) 6 x := sc_a u x y (by decide)
theorem sca_5_6 (u : zz_St) (x y : Nat → Int32) : ss_a (ss_a u 6 x) 5 y = ss_a (ss_a u 5 y) 6 x := sc_a u x y (by decide)
theorem sca_0_7 (u : zz_St) (x y : Nat → Int32) : ss_a (ss_a u 7 x) 0 y = ss_a (ss_a u 0 y) 7 x := sc_a u x y (by decide)
theorem sca_1_7 (u : zz_St) (x y : Nat → Int32) : ss_a (ss_a u 7 x) 1 y = ss_a (ss_a u 1 y) 7 x := sc_a u x y (by decide)
theorem sca_2_7 (u : zz_St) (x y : Nat → Int32) : ss_a (ss_a u 7 x) 2 y = ss_a (ss_a u 2 y) 7 x := sc_a u x y (by decide)
theorem sca_3_7 (u : zz_St) (x y : Nat → Int32) : ss_a (ss_a u 7 x) 3 y = ss_a (ss_a u 3 y) 7 x := sc_a u x y (by decide)
theorem sca_4_7 (u : zz_St) (x y : Nat → Int32) : ss_a (ss_a u 7 x) 4 y = ss_a (ss_a u 4 y) 7 x := sc_a u x y (by decide)
theorem sca_5_7 (u : zz_St) (x y : Nat → Int32) : ss_a (ss_a u 7 x) 5 y = ss_a (ss_a u 5 y) 7 x := sc_a u x y (by decide)
theorem sca_6_7 (u : zz_St) (x y : Nat → Int32) : ss_a (ss_a u 7 x) 6 y = ss_a (ss_a u 6 y) 7 x := sc_a u x y (by decide)
theorem sca_0_8 (u : zz_St) (x y : Nat → Int32) : ss_a (ss_a u 8 x) 0 y = ss_a (ss_a u 0 y) 8 x := sc_a u x y (by decide)
theorem sca_1_8 (u : zz_St) (x y : Nat → Int32) : ss_a (ss_a u 8 x) 1 y = ss_a (ss_a u 1 y) 8 x := sc_a u x y (by decide)
theorem sca_2_8 (u : zz_St) (x y : Nat → Int32) : ss_a (ss_a u 8 x) 2 y = ss_a (ss_a u 2 y) 8 x := sc_a u x y (by decide)
theorem sca_3_8 (u : zz_St) (x y : Nat → Int32) : ss_a (ss_a u 8 x) 3 y = ss_a (ss_a u 3 y) 8 x := sc_a u x y (by decide)
theorem sca_4_8 (u : zz_St) (x y : Nat → Int32) : ss_a (ss_a u 8 x) 4 y = ss_a (ss_a u 4 y) 8 x := sc_a u x y (by decide)
theorem sca_5_8 (u : zz_St) (x y : Nat → Int32) : ss_a (ss_a u 8 x) 5 y = ss_a (ss_a u 5 y) 8 x := sc_a u x y (by decide)
theorem sca_6_8 (u : zz_St) (x y : Nat → Int32) : ss_a (ss_a u 8 x) 6 y = ss_a (ss_a u 6 y) 8 x := sc_a u x y (by decide)
theorem sca_7_8 (u : zz_St) (x y : Nat → Int32) : ss_a (ss_a u 8 x) 7 y = ss_a (ss_a u 7 y) 8 x := sc_a u x y (by decide)
theorem sca_0_9 (u : zz_St) (x y : Nat → Int32) : ss_a (ss_a u 9 x) 0 y = ss_a (ss_a u 0 y) 9 x := sc_a u x y (by decide)
theorem sca_1_9 (u : zz_St) (x y : Nat → Int32) : ss_a (ss_a u 9 x) 1 y = ss_a (ss_a u 1 y) 9 x := sc_a u x y (by decide)
theorem sca_2_9 (u : zz_St) (x y : Nat → Int32) : ss_a (ss_a u 9 x) 2 y = ss_a (ss_a u 2 y) 9 x := sc_a u x y (by decide)
theorem sca_3_9 (u : zz_St) (x y : Nat → Int32) : ss_a (ss_a u 9 x) 3 y = ss_a (ss_a u 3 y) 9 x := sc_a u x y (by decide)
theorem sca_4_9 (u : zz_St) (x y : Nat → Int32) : ss_a (ss_a u 9 x) 4 y = ss_a (ss_a u 4 y) 9 x := sc_a u x y (by decide)
theorem sca_5_9 (u : zz_St) (x y : Nat → Int32) : ss_a (ss_a u 9 x) 5 y = ss_a (ss_a u 5 y) 9 x := sc_a u x y (by decide)
theorem sca_6_9 (u : zz_St) (x y : Nat → Int32) : ss_a (ss_a u 9 x) 6 y = ss_a (ss_a u 6 y) 9 x := sc_a u x y (by decide)
theorem sca_7_9 (u : zz_St) (x y : Nat → Int32) : ss_a (ss_a u 9 x) 7 y = ss_a (ss_a u 7 y) 9 x := sc_a u x y (by decide)
theorem sca_8_9 (u : zz_St) (x y : Nat → Int32) : ss_a (ss_a u 9 x) 8 y = ss_a (ss_a u 8 y) 9 x := sc_a u x y (by decide)
theorem sca_0_10 (u : zz_St) (x y : Nat → Int32) : ss_a (ss_a u 10 x) 0 y = ss_a (ss_a u 0 y) 10 x := sc_a u x y (by decide)
theorem sca_1_10 (u : zz_St) (x y : Nat → Int32) : ss_a (ss_a u 10 x) 1 y = ss_a (ss_a u 1 y) 10 x := sc_a u x y (by decide)
theorem sca_2_10 (u : zz_St) (x y : Nat → Int32) : ss_a (ss_a u 10 x) 2 y = ss_a (ss_a u 2 y) 10 x := sc_a u x y (by decide)
theorem sca_3_10 (u : zz_St) (x y : Nat → Int32) : ss_a (ss_a u 10 x) 3 y = ss_a (ss_a u 3 y) 10 x := sc_a u x y (by decide)
theorem sca_4_10 (u : zz_St) (x y : Nat → Int32) : ss_a (ss_a u 10 x) 4 y = ss_a (ss_a u 4 y) 10 x := sc_a u x y (by decide)
theorem sca_5_10 (u : zz_St) (x y : Nat → Int32) : ss_a (ss_a u 10 x) 5 y = ss_a (ss_a u 5 y) 10 x := sc_a u x y (by decide)
theorem sca_6_10 (u : zz_St) (x y : Nat → Int32) : ss_a (ss_a u 10 x) 6 y = ss_a (ss_a u 6 y) 10 x := sc_a u x y (by decide)
theorem sca_7_10 (u : zz_St) (x y : Nat → Int32) : ss_a (ss_a u 10 x) 7 y = ss_a (ss_a u 7 y) 10 x := sc_a u x y (by decide)
theorem sca_8_10 (u : zz_St) (x y : Nat → Int32) : ss_a (ss_a u 10 x) 8 y = ss_a (ss_a u 8 y) 10 x := sc_a u x y (by decide)
theorem sca_9_10 (u : zz_St) (x y : Nat → Int32) : ss_a (ss_a u 10 x) 9 y = ss_a (ss_a u 9 y) 10 x := sc_a u x y (by decide)
theorem sca_0_11 (u : zz_St) (x y : Nat → Int32) : ss_a (ss_a u 11 x) 0 y = ss_a (ss_a u 0 y) 11 x := sc_a u x y (by decide)
theorem sca_1_11 (u : zz_St) (x y : Nat → Int32) : ss_a (ss_a u 11 x) 1 y = ss_a (ss_a u 1 y) 11 x := sc_a u x y (by decide)
theorem sca_2_11 (u : zz_St) (x y : Nat → Int32) : ss_a (ss_a u 11 x) 2 y = ss_a (ss_a u 2 y) 11 x := sc_a u x y (by decide)
theorem sca_3_11 (u : zz_St) (x y : Nat → Int32) : ss_a (ss_a u 11 x) 3 y = ss_a (ss_a u 3 y) 11 x := sc_a u x y (by decide)
theorem sca_4_11 (u : zz_St) (x y : Nat → Int32) : ss_a (ss_a u 11 x) 4 y = ss_a (ss_a u 4 y) 11 x := sc_a u x y (by decide)
theorem sca_5_11 (u : zz_St) (x y : Nat → Int32) : ss_a (ss_a u 11 x) 5 y = ss_a (ss_a u 5 y) 11 x := sc_a u x y (by decide)
theorem sca_6_11 (u : zz_St) (x y : Nat → Int32) : ss_a (ss_a u 11 x) 6 y = ss_a (ss_a u 6 y) 11 x := sc_a u x y (by decide)
theorem sca_7_11 (u : zz_St) (x y : Nat → Int32) : ss_a (ss_a u 11 x) 7 y = ss_a (ss_a u 7 y) 11 x := sc_a u x y (by decide)
theorem sca_8_11 (u : zz_St) (x y : Nat → Int32) : ss_a (ss_a u 11 x) 8 y = ss_a (ss_a u 8 y) 11 x := sc_a u x y (by decide)
theorem sca_9_11 (u : zz_St) (x y : Nat → Int32) : ss_a (ss_a u 11 x) 9 y = ss_a (ss_a u 9 y) 11 x := sc_a u x y (by decide)
theorem sca_10_11 (u : zz_St) (x y : Nat → Int32) : ss_a (ss_a u 11 x) 10 y = ss_a (ss_a u 10 y) 11 x := sc_a u x y (by decide)
theorem sca_0_12 (u : zz_St) (x y : Nat → Int32) : ss_a (ss_a u 12 x) 0 y = ss_a (ss_a u 0 y) 12 x := sc_a u x y (by decide)
theorem sca_1_12 (u : zz_St) (x y : Nat → Int32) : ss_a (ss_a u 12 x) 1 y = ss_a (ss_a u 1 y) 12 x := sc_a u x y (by decide)
theorem sca_2_12 (u : zz_St) (x y : Nat → Int32) : ss_a (ss_a u 12 x) 2 y = ss_a (ss_a u 2 y) 12 x := sc_a u x y (by decide)
theorem sca_3_12 (u : zz_St) (x y : Nat → Int32) : ss_a (ss_a u 12 x) 3 y = ss_a (ss_a u 3 y) 12 x := sc_a u x y (by decide)
theorem sca_4_12 (u : zz_St) (x y : Nat → Int32) : ss_a (ss_a u 12 x) 4 y = ss_a (ss_a u 4 y) 12 x := sc_a u x y (by decide)
theorem sca_5_12 (u : zz_St) (x y : Nat → Int32) : ss_a (ss_a u 12 x) 5 y = ss_a (ss_a u 5 y) 12 x := sc_a u x y (by decide)
theorem sca_6_12 (u : zz_St) (x y : Nat → Int32) : ss_a (ss_a u 12 x) 6 y = ss_a (ss_a u 6 y) 12 x := sc_a u x y (by decide)
theorem sca_7_12 (u : zz_St) (x y : Nat → Int32) : ss_a (ss_a u 12 x) 7 y = ss_a (ss_a u 7 y) 12 x := sc_a u x y (by decide)
theorem sca_8_12 (u : zz_St) (x y : Nat → Int32) : ss_a (ss_a u 12 x) 8 y = ss_a (ss_a u 8 y) 12 x := sc_a u x y (by decide)
theorem sca_9_12 (u : zz_St) (x y : Nat → Int32) : ss_a (ss_a u 12 x) 9 y = ss_a (ss_a u 9 y) 12 x := sc_a u x y (by decide)
theorem sca_10_12 (u : zz_St) (x y : Nat → Int32) : ss_a (ss_a u 12 x) 10 y = ss_a (ss_a u 10 y) 12 x := sc_a u x y (by decide)
theorem sca_11_12 (u : zz_St) (x y : Nat → Int32) : ss_a (ss_a u 12 x) 11 y = ss_a (ss_a u 11 y) 12 x := sc_a u x y (by decide)
theorem sca_0_13 (u : zz_St) (x y : Nat → Int32) : ss_a (ss_a u 13 x) 0 y = ss_a (ss_a u 0 y) 13 x := sc_a u x y (by decide)
theorem sca_1_13 (u : zz_St) (x y : Nat → Int32) : ss_a (ss_a u 13 x) 1 y = ss_a (ss_a u 1 y) 13 x := sc_a u x y (by decide)
theorem sca_2_13 (u : zz_St) (x y : Nat → Int32) : ss_a (ss_a u 13 x) 2 y = ss_a (ss_a u 2 y) 13 x := sc_a u x y (by decide)
theorem sca_3_13 (u : zz_St) (x y : Nat → Int32) : ss_a (ss_a u 13 x) 3 y = ss_a (ss_a u 3 y) 13 x := sc_a u x y (by decide)
theorem sca_4_13 (u : zz_St) (x y : Nat → Int32) : ss_a (ss_a u 13 x) 4 y = ss_a (ss_a u 4 y) 13 x := sc_a u x y (by decide)
theorem sca_5_13 (u : zz_St) (x y : Nat → Int32) : ss_a (ss_a u 13 x) 5 y = ss_a (ss_a u 5 y) 13 x := sc_a u x y (by decide)
theorem sca_6_13 (u : zz_St) (x y : Nat → Int32) : ss_a (ss_a u 13 x) 6 y = ss_a (ss_a u 6 y) 13 x := sc_a u x y (by decide)
theorem sca_7_13 (u : zz_St) (x y : Nat → Int32) : ss_a (ss_a u 13 x) 7 y = ss_a (ss_a u 7 y) 13 x := sc_a u x y (by decide)
theorem sca_8_13 (u : zz_St) (x y : Nat → Int32) : ss_a (ss_a u 13 x) 8 y = ss_a (ss_a u 8 y) 13 x := sc_a u x y (by decide)
theorem sca_9_13 (u : zz_St) (x y : Nat → Int32) : ss_a (ss_a u 13 x) 9 y = ss_a (ss_a u 9 y) 13 x := sc_a u x y (by decide)
theorem sca_10_13 (u : zz_St) (x y : Nat → Int32) : ss_a (ss_a u 13 x) 10 y = ss_a (ss_a u 10 y) 13 x := sc_a u x y (by decide)
theorem sca_11_13 (u : zz_St) (x y : Nat → Int32) : ss_a (ss_a u 13 x) 11 y = ss_a (ss_a u 11 y) 13 x := sc_a u x y (by decide)
theorem sca_12_13 (u : zz_St) (x y : Nat → Int32) : ss_a (ss_a u 13 x) 12 y = ss_a (ss_a u 12 y) 13 x := sc_a u x y (by decide)
theorem sca_0_14 (u : zz_St) (x y : Nat → Int32) : ss_a (ss_a u 14 x) 0 y = ss_a (ss_a u 0 y) 14 x := sc_a u x y (by decide)
theorem sca_1_14 (u : zz_St) (x y : Nat → Int32) : ss_a (ss_a u 14 x) 1 y = ss_a (ss_a u 1 y) 14 x := sc_a u x y (by decide)
theorem sca_2_14 (u : zz_St) (x y : Nat → Int32) : ss_a (ss_a u 14 x) 2 y = ss_a (ss_a u 2 y) 14 x := sc_a u x y (by decide)
theorem sca_3_14 (u : zz_St) (x y : Nat → Int32) : ss_a (ss_a u 14 x) 3 y = ss_a (ss_a u 3 y) 14 x := sc_a u x y (by decide)
theorem sca_4_14 (u : zz_St) (x y : Nat → Int32) : ss_a (ss_a u 14 x) 4 y = ss_a (ss_a u 4 y) 14 x := sc_a u x y (by decide)
theorem sca_5_14 (u : zz_St) (x y : Nat → Int32) : ss_a (ss_a u 14 x) 5 y = ss_a (ss_a u 5 y) 14 x := sc_a u x y (by decide)
theorem sca_6_14 (u : zz_St) (x y : Nat → Int32) : ss_a (ss_a u 14 x) 6 y = ss_a (ss_a u 6 y) 14 x := sc_a u x y (by decide)
theorem sca_7_14 (u : zz_St) (x y : Nat → Int32) : ss_a (ss_a u 14 x) 7 y = ss_a (ss_a u 7 y) 14 x := sc_a u x y (by decide)
theorem sca_8_14 (u : zz_St) (x y : Nat → Int32) : ss_a (ss_a u 14 x) 8 y = ss_a (ss_a u 8 y) 14 x := sc_a u x y (by decide)
theorem sca_9_14 (u : zz_St) (x y : Nat → Int32) : ss_a (ss_a u 14 x) 9 y = ss_a (ss_a u 9 y) 14 x := sc_a u x y (by decide)
theorem sca_10_14 (u : zz_St) (x y : Nat → Int32) : ss_a (ss_a u 14 x) 10 y = ss_a (ss_a u 10 y) 14 x := sc_a u x y (by decide)
theorem sca_11_14 (u : zz_St) (x y : Nat → Int32) : ss_a (ss_a u 14 x) 11 y = ss_a (ss_a u 11 y) 14 x := sc_a u x y (by decide)
theorem sca_12_14 (u : zz_St) (x y : Nat → Int32) : ss_a (ss_a u 14 x) 12 y = ss_a (ss_a u 12 y) 14 x := sc_a u x y (by decide)
theorem sca_13_14 (u : zz_St) (x y : Nat → Int32) : ss_a (ss_a u 14 x) 13 y = ss_a (ss_a u 13 y) 14 x := sc_a u x y (by decide)
theorem sca_0_15 (u : zz_St) (x y : Nat → Int32) : ss_a (ss_a u 15 x) 0 y = ss_a (ss_a u 0 y) 15 x := sc_a u x y (by decide)
theorem sca_1_15 (u : zz_St) (x y : Nat → Int32) : ss_a (ss_a u 15 x) 1 y = ss_a (ss_a u 1 y) 15 x := sc_a u x y (by decide)
theorem sca_2_15 (u : zz_St) (x y : Nat → Int32) : ss_a (ss_a u 15 x) 2 y = ss_a (ss_a u 2 y) 15 x := sc_a u x y (by decide)
theorem sca_3_15 (u : zz_St) (x y : Nat → Int32) : ss_a (ss_a u 15 x) 3 y = ss_a (ss_a u 3 y) 15 x := sc_a u x y (by decide)
theorem sca_4_15 (u : zz_St) (x y : Nat → Int32) : ss_a (ss_a u 15 x) 4 y = ss_a (ss_a u 4 y) 15 x := sc_a u x y (by decide)
theorem sca_5_15 (u : zz_St) (x y : Nat → Int32) : ss_a (ss_a u 15 x) 5 y = ss_a (ss_a u 5 y) 15 x := sc_a u x y (by decide)
theorem sca_6_15 (u : zz_St) (x y : Nat → Int32) : ss_a (ss_a u 15 x) 6 y = ss_a (ss_a u 6 y) 15 x := sc_a u x y (by decide)
theorem sca_7_15 (u : zz_St) (x y : Nat → Int32) : ss_a (ss_a u 15 x) 7 y = ss_a (ss_a u 7 y) 15 x := sc_a u x y (by decide)
theorem sca_8_15 (u : zz_St) (x y : Nat → Int32) : ss_a (ss_a u 15 x) 8 y = ss_a (ss_a u 8 y) 15 x := sc_a u x y (by decide)
theorem sca_9_15 (u : zz_St) (x y : Nat → Int32) : ss_a (ss_a u 15 x) 9 y = ss_a (ss_a u 9 y) 15 x := sc_a u x y (by decide)
theorem sca_10_15 (u : zz_St) (x y : Nat → Int32) : ss_a (ss_a u 15 x) 10 y = ss_a (ss_a u 10 y) 15 x := sc_a u x y (by decide)
theorem sca_11_15 (u : zz_St) (x y : Nat → Int32) : ss_a (ss_a u 15 x) 11 y = ss_a (ss_a u 11 y) 15 x := sc_a u x y (by decide)
theorem sca_12_15 (u : zz_St) (x y : Nat → Int32) : ss_a (ss_a u 15 x) 12 y = ss_a (ss_a u 12 y) 15 x := sc_a u x y (by decide)
theorem sca_13_15 (u : zz_St) (x y : Nat → Int32) : ss_a (ss_a u 15 x) 13 y = ss_a (ss_a u 13 y) 15 x := sc_a u x y (by decide)
theorem sca_14_15 (u : zz_St) (x y : Nat → Int32) : ss_a (ss_a u 15 x) 14 y = ss_a (ss_a u 14 y) 15 x := sc_a u x y (by decide)
theorem sca_0_16 (u : zz_St) (x y : Nat → Int32) : ss_a (ss_a u 16 x) 0 y = ss_a (ss_a u 0 y) 16 x := sc_a u x y (by decide)
theorem sca_1_16 (u : zz_St) (x y : Nat → Int32) : ss_a (ss_a u 16 x) 1 y = ss_a (ss_a u 1 y) 16 x := sc_a u x y (by decide)
theorem sca_2_16 (u : zz_St) (x y : Nat → Int32) : ss_a (ss_a u 16 x) 2 y = ss_a (ss_a u 2 y) 16 x := sc_a u x y (by decide)
theorem sca_3_16 (u : zz_St) (x y : Nat → Int32) : ss_a (ss_a u 16 x) 3 y = ss_a (ss_a u 3 y) 16 x := sc_a u x y (by decide)
theorem sca_4_16 (u : zz_St) (x y : Nat → Int32) : ss_a (ss_a u 16 x) 4 y = ss_a (ss_a u 4 y) 16 x := sc_a u x y (by decide)
theorem sca_5_16 (u : zz_St) (x y : Nat → Int32) : ss_a (ss_a u 16 x) 5 y = ss_a (ss_a u 5 y) 16 x := sc_a u x y (by decide)
theorem sca_6_16 (u : zz_St) (x y : Nat → Int32) : ss_a (ss_a u 16 x) 6 y = ss_a (ss_a u 6 y) 16 x := sc_a u x y (by decide)
theorem sca_7_16 (u : zz_St) (x y : Nat → Int32) : ss_a (ss_a u 16 x) 7 y = ss_a (ss_a u 7 y) 16 x := sc_a u x y (by decide)
theorem sca_8_16 (u : zz_St) (x y : Nat → Int32) : ss_a (ss_a u 16 x) 8 y = ss_a (ss_a u 8 y) 16 x := sc_a u x y (by decide)
theorem sca_9_16 (u : zz_St) (x y : Nat → Int32) : ss_a (ss_a u 16 x) 9 y = ss_a (ss_a u 9 y) 16 x := sc_a u x y (by decide)
theorem sca_10_16 (u : zz_St) (x y : Nat → Int32) : ss_a (ss_a u 16 x) 10 y = ss_a (ss_a u 10 y) 16 x := sc_a u x y (by decide)
theorem sca_11_16 (u : zz_St) (x y : Nat → Int32) : ss_a (ss_a u 16 x) 11 y = ss_a (ss_a u 11 y) 16 x := sc_a u x y (by decide)
theorem sca_12_16 (u : zz_St) (x y : Nat → Int32) : ss_a (ss_a u 16 x) 12 y = ss_a (ss_a u 12 y) 16 x := sc_a u x y (by decide)
theorem sca_13_16 (u : zz_St) (x y : Nat → Int32) : ss_a (ss_a u 16 x) 13 y = ss_a (ss_a u 13 y) 16 x := sc_a u x y (by decide)
theorem sca_14_16 (u : zz_St) (x y : Nat → Int32) : ss_a (ss_a u 16 x) 14 y = ss_a (ss_a u 14 y) 16 x := sc_a u x y (by decide)
theorem sca_15_16 (u : zz_St) (x y : Nat → Int32) : ss_a (ss_a u 16 x) 15 y = ss_a (ss_a u 15 y) 16 x := sc_a u x y (by decide)
theorem sca_0_17 (u : zz_St) (x y : Nat → Int32) : ss_a (ss_a u 17 x) 0 y = ss_a (ss_a u 0 y) 17 x := sc_a u x y (by decide)
theorem sca_1_17 (u : zz_St) (x y : Nat → Int32) : ss_a (ss_a u 17 x) 1 y = ss_a (ss_a u 1 y) 17 x := sc_a u x y (by decide)
theorem sca_2_17 (u : zz_St) (x y : Nat → Int32) : ss_a (ss_a u 17 x) 2 y = ss_a (ss_a u 2 y) 17 x := sc_a u x y (by decide)
theorem sca_3_17 (u : zz_St) (x y : Nat → Int32) : ss_a (ss_a u 17 x) 3 y = ss_a (ss_a u 3 y) 17 x := sc_a u x y (by decide)
theorem sca_4_17 (u : zz_St) (x y : Nat → Int32) : ss_a (ss_a u 17 x) 4 y = ss_a (ss_a u 4 y) 17 x := sc_a u x y (by decide)
theorem sca_5_17 (u : zz_St) (x y : Nat → Int32) : ss_a (ss_a u 17 x) 5 y = ss_a (ss_a u 5 y) 17 x := sc_a u x y (by decide)
theorem sca_6_17 (u : zz_St) (x y : Nat → Int32) : ss_a (ss_a u 17 x) 6 y = ss_a (ss_a u 6 y) 17 x := sc_a u x y (by decide)
theorem sca_7_17 (u : zz_St) (x y : Nat → Int32) : ss_a (ss_a u 17 x) 7 y = ss_a (ss_a u 7 y) 17 x := sc_a u x y (by decide)
theorem sca_8_17 (u : zz_St) (x y : Nat → Int32) : ss_a (ss_a u 17 x) 8 y = ss_a (ss_a u 8 y) 17 x := sc_a u x y (by decide)
theorem sca_9_17 (u : zz_St) (x y : Nat → Int32) : ss_a (ss_a u 17 x) 9 y = ss_a (ss_a u 9 y) 17 x := sc_a u x y (by decide)
theorem sca_10_17 (u : zz_St) (x y : Nat → Int32) : ss_a (ss_a u 17 x) 10 y = ss_a (ss_a u 10 y) 17 x := sc_a u x y (by decide)
theorem sca_11_17 (u : zz_St) (x y : Nat → Int32) : ss_a (ss_a u 17 x) 11 y = ss_a (ss_a u 11 y) 17 x := sc_a u x y (by decide)
theorem sca_12_17 (u : zz_St) (x y : Nat → Int32) : ss_a (ss_a u 17 x) 12 y = ss_a (ss_a u 12 y) 17 x := sc_a u x y (by decide)
theorem sca_13_17 (u : zz_St) (x y : Nat → Int32) : ss_a (ss_a u 17 x) 13 y = ss_a (ss_a u 13 y) 17 x := sc_a u x y (by decide)
theorem sca_14_17 (u : zz_St) (x y : Nat → Int32) : ss_a (ss_a u 17 x) 14 y = ss_a (ss_a u 14 y) 17 x := sc_a u x y (by decide)
theorem sca_15_17 (u : zz_St) (x y : Nat → Int32) : ss_a (ss_a u 17 x) 15 y = ss_a (ss_a u 15 y) 17 x := sc_a u x y (by decide)
theorem sca_16_17 (u : zz_St) (x y : Nat → Int32) : ss_a (ss_a u 17 x) 16 y = ss_a (ss_a u 16 y) 17 x := sc_a u x y (by decide)
theorem scb_0_1 (u : zz_St) (x y : Nat → Int64) : ss_b (ss_b u 1 x) 0 y = ss_b (ss_b u 0 y) 1 x := sc_b u x y (by decide)
theorem scb_0_2 (u : zz_St) (x y : Nat → Int64) : ss_b (ss_b u 2 x) 0 y = ss_b (ss_b u 0 y) 2 x := sc_b u x y (by decide)
theorem scb_1_2 (u : zz_St) (x y : Nat → Int64) : ss_b (ss_b u 2 x) 1 y = ss_b (ss_b u 1 y) 2 x := sc_b u x y (by decide)
theorem scb_0_3 (u : zz_St) (x y : Nat → Int64) : ss_b (ss_b u 3 x) 0 y = ss_b (ss_b u 0 y) 3 x := sc_b u x y (by decide)
theorem scb_1_3 (u : zz_St) (x y : Nat → Int64) : ss_b (ss_b u 3 x) 1 y = ss_b (ss_b u 1 y) 3 x := sc_b u x y (by decide)
theorem scb_2_3 (u : zz_St) (x y : Nat → Int64) : ss_b (ss_b u 3 x) 2 y = ss_b (ss_b u 2 y) 3 x := sc_b u x y (by decide)
theorem scb_0_4 (u : zz_St) (x y : Nat → Int64) : ss_b (ss_b u 4 x) 0 y = ss_b (ss_b u 0 y) 4 x := sc_b u x y (by decide)
theorem scb_1_4 (u : zz_St) (x y : Nat → Int64) : ss_b (ss_b u 4 x) 1 y = ss_b (ss_b u 1 y) 4 x := sc_b u x y (by decide)
theorem scb_2_4 (u : zz_St) (x y : Nat → Int64) : ss_b (ss_b u 4 x) 2 y = ss_b (ss_b u 2 y) 4 x := sc_b u x y (by decide)
theorem scb_3_4 (u : zz_St) (x y : Nat → Int64) : ss_b (ss_b u 4 x) 3 y = ss_b (ss_b u 3 y) 4 x := sc_b u x y (by decide)
theorem scb_0_5 (u : zz_St) (x y : Nat → Int64) : ss_b (ss_b u 5 x) 0 y = ss_b (ss_b u 0 y) 5 x := sc_b u x y (by decide)
theorem scb_1_5 (u : zz_St) (x y : Nat → Int64) : ss_b (ss_b u 5 x) 1 y = ss_b (ss_b u 1 y) 5 x := sc_b u x y (by decide)
theorem scb_2_5 (u : zz_St) (x y : Nat → Int64) : ss_b (ss_b u 5 x) 2 y = ss_b (ss_b u 2 y) 5 x := sc_b u x y (by decide)
theorem scb_3_5 (u : zz_St) (x y : Nat → Int64) : ss_b (ss_b u 5 x) 3 y = ss_b (ss_b u 3 y) 5 x := sc_b u x y (by decide)
theorem scb_4_5 (u : zz_St) (x y : Nat → Int64) : ss_b (ss_b u 5 x) 4 y = ss_b (ss_b u 4 y) 5 x := sc_b u x y (by decide)
def oI (o : Option Nat) : Int32 := match o with | none => -1 | some w => nI w
theorem nI_nm1 {n : Nat} (h : n < 2 ^ 31) : ¬ nI n = -1 := by
  intro e
  have := congrArg Int32.toInt e
  rw [nI_toInt h] at this
  have h2 : (-1 : Int32).toInt = -1 := rfl
  rw [h2] at this
  omega
theorem oI_none : oI none = -1 := rfl
theorem oI_some (w : Nat) : oI (some w) = nI w := rfl
theorem nI_cases (x : Int32) (n : Nat) (hn : n < 2 ^ 31) : (∃ j : Nat, j < n ∧ x = nI j) ∨ (x < 0 ∨ nI n ≤ x) := by
  rcases pk_ix x hn with h | h | h
  · exact Or.inr (Or.inl h)
  · exact Or.inr (Or.inr h)
  · exact Or.inl h
theorem nI_inj {a b : Nat} (ha : a < 2 ^ 31) (hb : b < 2 ^ 31) (h : nI a = nI b) : a = b := (nI_eq ha hb).mp h
def rG (W H : Nat) (bl : Nat → Nat) (iw ih : Int32) (a : Nat → Int32) : Prop := 1 ≤ W ∧ W ≤ 6 ∧ 1 ≤ H ∧ H ≤ 6 ∧ iw = nI W ∧ ih = nI H ∧ ∀ c, c < 36 → a c = nI (bl c) ∧ bl c ≤ 1
def rK (cn : Nat) (cl : Nat → Nat) (i : Int32) (a : Nat → Int32) : Prop := cn ≤ 6 ∧ i = nI cn ∧ ∀ p, p < cn → a p = nI (cl p) ∧ 97 ≤ cl p ∧ cl p ≤ 122
def rW (n : Nat) (len : Nat → Nat) (lt : Nat → Nat → Nat) (sc : Nat → Nat) (i : Int32) (al as_ at_ : Nat → Int32) : Prop := n ≤ 80 ∧ i = nI n ∧ ∀ w, w < n → 2 ≤ len w ∧ len w ≤ 6 ∧ sc w ≤ 1000 ∧ al w = nI (len w) ∧ as_ w = nI (sc w) ∧ ∀ p, p < len w → at_ (w * 6 + p) = nI (lt w p) ∧ 97 ≤ lt w p ∧ lt w p ≤ 122
def rV (gv : Nat → Nat) (a : Nat → Int32) : Prop := ∀ c, c < 36 → a c = nI (gv c) ∧ (gv c = 0 ∨ 97 ≤ gv c ∧ gv c ≤ 122)
theorem rK_add {cn : Nat} {cl : Nat → Nat} {i : Int32} {a : Nat → Int32} {x : Nat} (h : rK cn cl i a) (hc : cn < 6) (h1 : 97 ≤ x) (h2 : x ≤ 122) : rK (cn + 1) (fun p => if p = cn then x else cl p) (nI (cn + 1)) (upd a cn (nI x)) := by
  refine ⟨by omega, rfl, fun p hp => ?_⟩
  by_cases e : p = cn
  · subst e
    simp [upd, h1, h2]
  · simp [upd, e]
    exact h.2.2 p (by omega)
theorem sp_X_isLetter {a0 : Int32} {u : zz_St} {post : Int32 → zz_St → Prop} (h1 : ∀ x : Nat, 97 ≤ x → x ≤ 122 → a0 = nI x → post 1 u) (h0 : (¬ ∃ x : Nat, 97 ≤ x ∧ x ≤ 122 ∧ a0 = nI x) → post 0 u) : wp_X_isLetter a0 u post := by
  have key : ∀ {P : Prop}, (a0 < 97 ∨ 122 < a0 → P) → (∀ x : Nat, 97 ≤ x → x ≤ 122 → a0 = nI x → P) → P := by
    intro P k0 k1
    by_cases c1 : a0 < 97
    · exact k0 (Or.inl c1)
    · by_cases c2 : 122 < a0
      · exact k0 (Or.inr c2)
      · obtain ⟨j, hj, rfl⟩ := nI_of (x := a0) (fun q => c1 (Int32.lt_trans q (by decide)))
        have e1 := (not_congr (nI_ltI (a := j) (b := 97) hj (by omega))).mp c1
        have e2 := (not_congr (nI_ltI (a := 122) (b := j) (by omega) hj)).mp c2
        exact k1 j (by omega) (by omega) rfl
  refine ⟨fun c1 => h0 ?_, fun c1 => ⟨fun c2 => h0 ?_, fun c2 => key (fun q => absurd q (by rintro (q | q) <;> contradiction)) h1⟩⟩
  · rintro ⟨x, q1, q2, rfl⟩
    exact absurd ((nI_ltI (a := x) (b := 97) (by omega) (by omega)).mp c1) (by omega)
  · rintro ⟨x, q1, q2, rfl⟩
    exact absurd ((nI_ltI (a := 122) (b := x) (by omega) (by omega)).mp c2) (by omega)
theorem sp_M_isLetter {a0 : Int32} {u : zz_St} {post : Int32 → zz_St → Prop} (h1 : ∀ x : Nat, 97 ≤ x → x ≤ 122 → a0 = nI x → post 1 u) (h0 : (¬ ∃ x : Nat, 97 ≤ x ∧ x ≤ 122 ∧ a0 = nI x) → post 0 u) : wp_M_isLetter a0 u post := sp_X_isLetter h1 h0
theorem sp_X_unit {a0 : Int32} {u : zz_St} {post : Int32 → zz_St → Prop} {cn : Nat} {cl : Nat → Nat} (hK : rK cn cl (sg_i u 5) (sg_a u 14))
    (h1 : ∀ x : Nat, 97 ≤ x → x ≤ 122 → a0 = nI x → cn < 6 → post 1 (ss_a (ss_i u 5 (nI (cn + 1))) 14 (upd (sg_a u 14) cn (nI x)))) (h0 : (¬ ((∃ x : Nat, 97 ≤ x ∧ x ≤ 122 ∧ a0 = nI x) ∧ cn < 6)) → post 0 u) : wp_X_unit a0 u post := by
  obtain ⟨k1, k2, k3⟩ := id hK
  refine sp_X_isLetter (fun x q1 q2 e => ?_) (fun q => ?_)
  · refine ⟨fun c => absurd c (by decide), fun _ => ?_⟩
    unfold wp_L_collect
    rw [k2]
    refine pk_lt cn 6 (fun c => ⟨pk_in cn 6 c, fun v ev => ?_⟩) (fun c => ?_)
    · refine ⟨fun c => absurd c (by decide), fun _ => ?_⟩
      rw [ev, pk_cl cn, nI_1, e]
      exact h1 x q1 q2 e c
    · exact ⟨fun _ => h0 (by omega), fun c => absurd rfl c⟩
  · exact ⟨fun _ => h0 (fun z => q z.1), fun c => absurd rfl c⟩
theorem sp_M_unit {a0 : Int32} {u : zz_St} {post : Int32 → zz_St → Prop} {cn : Nat} {cl : Nat → Nat} (hK : rK cn cl (sg_i u 3) (sg_a u 2))
    (h1 : ∀ x : Nat, 97 ≤ x → x ≤ 122 → a0 = nI x → cn < 6 → post 1 (ss_a (ss_i (ss_i u 0 0) 3 (nI (cn + 1))) 2 (upd (sg_a u 2) cn (nI x)))) (h0 : (¬ ((∃ x : Nat, 97 ≤ x ∧ x ≤ 122 ∧ a0 = nI x) ∧ cn < 6)) → post 0 (ss_i u 0 0)) : wp_M_unit a0 u post := by
  obtain ⟨k1, k2, k3⟩ := id hK
  refine sp_M_isLetter (fun x q1 q2 e => ?_) (fun q => ?_)
  · refine ⟨fun c => absurd c (by decide), fun _ => ?_⟩
    simp (decide := true) only [sx_il, sx_ia, sx_ib, sy_i, sz_i, sx_li, sx_la, sx_lb, sy_l, sz_l, sx_ai, sx_al, sx_ab, sy_a, sz_a, sx_bi, sx_bl, sx_ba, sy_b, sz_b]
    rw [k2]
    refine pk_eq cn 6 (fun c => h0 (by omega)) (fun c => ⟨pk_in cn 6 (by omega), fun v ev => ?_⟩)
    rw [ev, pk_cl cn, nI_1, e]
    exact h1 x q1 q2 e (by omega)
  · exact ⟨fun _ => h0 (fun z => q z.1), fun c => absurd rfl c⟩
