def hasP (P : List (Nat × Nat × Nat)) (f2 f3 f4 : Nat → Int32) : Prop := ∀ k e, P[k]? = some e → f2 k = nI e.1 ∧ f3 k = nI e.2.1 ∧ f4 k = nI e.2.2
def thr (W : Nat) (P : List (Nat × Nat × Nat)) (f6 f7 : Nat → Int32) : Prop := (∀ (k : Nat) (e : Nat × Nat × Nat) (p : Nat), P[k]? = some e → p < e.2.1 → f6 (e.2.2 * 36 + celp W e p) = nI k ∧ f7 (e.2.2 * 36 + celp W e p) = nI p) ∧ (∀ i : Nat, i < 72 → f6 i = -1 ∨ ∃ (k : Nat) (e : Nat × Nat × Nat) (p : Nat), P[k]? = some e ∧ p < e.2.1 ∧ i = e.2.2 * 36 + celp W e p)
def mkf (g : Nat → Nat) (v : Nat → Int32) : Nat → (Nat → Int32) → (Nat → Int32)
  | 0, f => f
  | j + 1, f => upd (mkf g v j f) (g j) (v j)
theorem mkf_in {g : Nat → Nat} {v : Nat → Int32} {f : Nat → Int32} (hg : ∀ a b, g a = g b → a = b) : ∀ {n p : Nat}, p < n → mkf g v n f (g p) = v p := by
  intro n
  induction n with
  | zero => intro p h; exact absurd h (Nat.not_lt_zero p)
  | succ n ih =>
    intro p h
    unfold mkf upd
    by_cases e : g p = g n
    · rw [if_pos e, hg _ _ e]
    · rw [if_neg e]
      exact ih (by have : p ≠ n := fun q => e (by rw [q]); omega)
theorem mkf_out {g : Nat → Nat} {v : Nat → Int32} {f : Nat → Int32} {i : Nat} : ∀ {n : Nat}, (∀ p, p < n → i ≠ g p) → mkf g v n f i = f i := by
  intro n
  induction n with
  | zero => intro _; rfl
  | succ n ih =>
    intro h
    unfold mkf upd
    rw [if_neg (h n (Nat.lt_succ_self n))]
    exact ih (fun p hp => h p (by omega))
theorem sp_G_cellOf {k p c d W : Nat} {u : zz_St} {post : Int32 → zz_St → Prop} (hk : k < 24) (e2 : sg_a u 2 k = nI c) (e4 : sg_a u 4 k = nI d) (ew : sg_i u 0 = nI W) (hd : d < 2) (h : post (nI (c + p * (if d = 0 then 1 else W))) u) : wp_G_cellOf (nI k) (nI p) u post := by
  unfold wp_G_cellOf
  rw [pk_cl k, e4, e2, ew]
  refine ⟨pk_in k 24 hk, pk_in k 24 hk, pk_eq d 0 (fun e => ?_) (fun e => ?_)⟩
  · rw [if_pos e] at h
    rw [show (1 : Int32) = nI 1 from rfl, pk_mul, nI_add]
    exact h
  · rw [if_neg e] at h
    rw [pk_mul, nI_add]
    exact h
theorem sp_G_markCells {k c n d W : Nat} {u : zz_St} {post : zz_St → Prop} (hk : k < 24) (e2 : sg_a u 2 k = nI c) (e3 : sg_a u 3 k = nI n) (e4 : sg_a u 4 k = nI d) (ew : sg_i u 0 = nI W) (hd : d < 2) (hn : n ≤ 6) (hc : ∀ p, p < n → celp W (c, n, d) p < 36)
    (h : post (ss_a (ss_a u 6 (mkf (fun p => d * 36 + celp W (c, n, d) p) (fun _ => nI k) n (sg_a u 6))) 7 (mkf (fun p => d * 36 + celp W (c, n, d) p) (fun p => nI p) n (sg_a u 7)))) : wp_G_markCells (nI k) u post := by
  suffices ∀ r j, j + r = n → ∃ m, wp_G_markCells_2_f post m (nI k) (nI j) (ss_a (ss_a u 6 (mkf (fun p => d * 36 + celp W (c, n, d) p) (fun _ => nI k) j (sg_a u 6))) 7 (mkf (fun p => d * 36 + celp W (c, n, d) p) (fun p => nI p) j (sg_a u 7))) by
    obtain ⟨m, hm⟩ := this n 0 (Nat.zero_add n)
    refine ⟨m, ?_⟩
    have e : ss_a (ss_a u 6 (mkf (fun p => d * 36 + celp W (c, n, d) p) (fun _ => nI k) 0 (sg_a u 6))) 7 (mkf (fun p => d * 36 + celp W (c, n, d) p) (fun p => nI p) 0 (sg_a u 7)) = u := by
      refine Prod.ext rfl (Prod.ext rfl (Prod.ext (funext fun j => ?_) rfl))
      show (if j = 7 then sg_a u 7 else if j = 6 then sg_a u 6 else u.2.2.1 j) = u.2.2.1 j
      by_cases q : j = 7
      · rw [if_pos q, q]; rfl
      · rw [if_neg q]
        by_cases q2 : j = 6
        · rw [if_pos q2, q2]; rfl
        · rw [if_neg q2]
    rw [e] at hm
    exact hm
  intro r
  induction r with
  | zero =>
    intro j hj
    refine ⟨1, ?_⟩
    show wp_G_markCells_2 post _ _ _ _
    unfold wp_G_markCells_2
    simp (decide := true) only [sx_il, sx_ia, sx_ib, sy_i, sz_i, sx_li, sx_la, sx_lb, sy_l, sz_l, sx_ai, sx_al, sx_ab, sy_a, sz_a, sx_bi, sx_bl, sx_ba, sy_b, sz_b]
    rw [pk_cl k, e3]
    have : j = n := by omega
    subst this
    exact ⟨pk_in k 24 hk, pk_le j j (fun _ => h) (fun q => absurd q (Nat.lt_irrefl j))⟩
  | succ r ih =>
    intro j hj
    obtain ⟨m, hm⟩ := ih (j + 1) (by omega)
    refine ⟨m + 1, ?_⟩
    show wp_G_markCells_2 post _ _ _ _
    unfold wp_G_markCells_2
    simp (decide := true) only [sx_il, sx_ia, sx_ib, sy_i, sz_i, sx_li, sx_la, sx_lb, sy_l, sz_l, sx_ai, sx_al, sx_ab, sy_a, sz_a, sx_bi, sx_bl, sx_ba, sy_b, sz_b]
    rw [pk_cl k, e3, e4]
    refine ⟨pk_in k 24 hk, pk_le n j (fun q => absurd q (by omega)) (fun _ => ⟨pk_in k 24 hk, ?_⟩)⟩
    refine sp_G_cellOf (c := c) (d := d) (W := W) hk (by simp (decide := true) only [sx_il, sx_ia, sx_ib, sy_i, sz_i, sx_li, sx_la, sx_lb, sy_l, sz_l, sx_ai, sx_al, sx_ab, sy_a, sz_a, sx_bi, sx_bl, sx_ba, sy_b, sz_b]; exact e2) (by simp (decide := true) only [sx_il, sx_ia, sx_ib, sy_i, sz_i, sx_li, sx_la, sx_lb, sy_l, sz_l, sx_ai, sx_al, sx_ab, sy_a, sz_a, sx_bi, sx_bl, sx_ba, sy_b, sz_b]; exact e4) (by simp (decide := true) only [sx_il, sx_ia, sx_ib, sy_i, sz_i, sx_li, sx_la, sx_lb, sy_l, sz_l, sx_ai, sx_al, sx_ab, sy_a, sz_a, sx_bi, sx_bl, sx_ba, sy_b, sz_b]; exact ew) hd ?_
    intro v ev
    have hcj := hc j (by omega)
    have hcj2 : c + j * (if d = 0 then 1 else W) < 36 := hcj
    rw [show (36 : Int32) = nI 36 from rfl, pk_mul, nI_add] at ev
    subst ev
    refine ⟨pk_in _ 72 (by omega) rfl, pk_in _ 72 (by omega) rfl, ?_⟩
    rw [pk_cl (d * 36 + (c + j * (if d = 0 then 1 else W))), nI_1]
    simp (decide := true) only [sx_il, sx_ia, sx_ib, sy_i, sz_i, sx_li, sx_la, sx_lb, sy_l, sz_l, sx_ai, sx_al, sx_ab, sy_a, sz_a, sx_bi, sx_bl, sx_ba, sy_b, sz_b, so_i, so_l, so_a, so_b, sci_0_1, sci_0_2, sci_1_2, sci_0_3, sci_1_3, sci_2_3, sci_0_4, sci_1_4, sci_2_4, sci_3_4, sci_0_5, sci_1_5, sci_2_5, sci_3_5, sci_4_5, sci_0_6, sci_1_6, sci_2_6, sci_3_6, sci_4_6, sci_5_6, sci_0_7, sci_1_7, sci_2_7, sci_3_7, sci_4_7, sci_5_7, sci_6_7, sci_0_8, sci_1_8, sci_2_8, sci_3_8, sci_4_8, sci_5_8, sci_6_8, sci_7_8, sci_0_9, sci_1_9, sci_2_9, sci_3_9, sci_4_9, sci_5_9, sci_6_9, sci_7_9, sci_8_9, sci_0_10, sci_1_10, sci_2_10, sci_3_10, sci_4_10, sci_5_10, sci_6_10, sci_7_10, sci_8_10, sci_9_10, sci_0_11, sci_1_11, sci_2_11, sci_3_11, sci_4_11, sci_5_11, sci_6_11, sci_7_11, sci_8_11, sci_9_11, sci_10_11, sci_0_12, sci_1_12, sci_2_12, sci_3_12, sci_4_12, sci_5_12, sci_6_12, sci_7_12, sci_8_12, sci_9_12, sci_10_12, sci_11_12, scl_0_1, sca_0_1, sca_0_2, sca_1_2, sca_0_3, sca_1_3, sca_2_3, sca_0_4, sca_1_4, sca_2_4, sca_3_4, sca_0_5, sca_1_5, sca_2_5, sca_3_5, sca_4_5, sca_0_6, sca_1_6, sca_2_6, sca_3_6, sca_4_6, sca_5_6, sca_0_7, sca_1_7, sca_2_7, sca_3_7, sca_4_7, sca_5_7, sca_6_7, sca_0_8, sca_1_8, sca_2_8, sca_3_8, sca_4_8, sca_5_8, sca_6_8, sca_7_8, sca_0_9, sca_1_9, sca_2_9, sca_3_9, sca_4_9, sca_5_9, sca_6_9, sca_7_9, sca_8_9, sca_0_10, sca_1_10, sca_2_10, sca_3_10, sca_4_10, sca_5_10, sca_6_10, sca_7_10, sca_8_10, sca_9_10, sca_0_11, sca_1_11, sca_2_11, sca_3_11, sca_4_11, sca_5_11, sca_6_11, sca_7_11, sca_8_11, sca_9_11, sca_10_11, sca_0_12, sca_1_12, sca_2_12, sca_3_12, sca_4_12, sca_5_12, sca_6_12, sca_7_12, sca_8_12, sca_9_12, sca_10_12, sca_11_12, sca_0_13, sca_1_13, sca_2_13, sca_3_13, sca_4_13, sca_5_13, sca_6_13, sca_7_13, sca_8_13, sca_9_13, sca_10_13, sca_11_13, sca_12_13, sca_0_14, sca_1_14, sca_2_14, sca_3_14, sca_4_14, sca_5_14, sca_6_14, sca_7_14, sca_8_14, sca_9_14, sca_10_14, sca_11_14, sca_12_14, sca_13_14, sca_0_15, sca_1_15, sca_2_15, sca_3_15, sca_4_15, sca_5_15, sca_6_15, sca_7_15, sca_8_15, sca_9_15, sca_10_15, sca_11_15, sca_12_15, sca_13_15, sca_14_15, sca_0_16, sca_1_16, sca_2_16, sca_3_16, sca_4_16, sca_5_16, sca_6_16, sca_7_16, sca_8_16, sca_9_16, sca_10_16, sca_11_16, sca_12_16, sca_13_16, sca_14_16, sca_15_16, sca_0_17, sca_1_17, sca_2_17, sca_3_17, sca_4_17, sca_5_17, sca_6_17, sca_7_17, sca_8_17, sca_9_17, sca_10_17, sca_11_17, sca_12_17, sca_13_17, sca_14_17, sca_15_17, sca_16_17, scb_0_1, scb_0_2, scb_1_2, scb_0_3, scb_1_3, scb_2_3, scb_0_4, scb_1_4, scb_2_4, scb_3_4, scb_0_5, scb_1_5, scb_2_5, scb_3_5, scb_4_5, sd_li, sd_ai, sd_bi, sd_al, sd_bl, sd_ba]
    exact hm
