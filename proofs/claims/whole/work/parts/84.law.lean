def A0 (W H : Nat) : AS := mkA W H (fun _ => 0) 0 (fun _ => 0) (fun _ _ => 0) (fun _ => 0) 0 (fun _ => 0) (fun _ => 0) (fun _ => none) none 0 0
theorem bb_00 (r : Nat) : ¬ bb 0 0 r = true := by
  intro z
  unfold bb at z
  rw [gbt_0, gbt_0] at z
  split at z <;> cases z
theorem VA_0 (W H : Nat) : VA (A0 W H) := ⟨fun _ _ _ _ z => (by cases z), fun _ z => (by cases z), Nat.zero_le _, Nat.zero_le _⟩
theorem held_nat (x : Int32) : ∃ W : Nat, 1 ≤ W ∧ W ≤ 6 ∧ zz_held x = nI W := by
  have t1 : (1 : Int32).toInt = 1 := by decide
  have t6 : (6 : Int32).toInt = 6 := by decide
  have t0 : (0 : Int32).toInt = 0 := by decide
  unfold zz_held
  by_cases c : x < 6
  · rw [if_pos c]
    by_cases c2 : (1 : Int32) < x
    · rw [if_pos c2]
      have a := Int32.lt_iff_toInt_lt.mp c
      have b := Int32.lt_iff_toInt_lt.mp c2
      obtain ⟨W, hW, rfl⟩ := nI_of (x := x) (fun z => by
        have := Int32.lt_iff_toInt_lt.mp z
        omega)
      rw [nI_toInt hW] at a b
      exact ⟨W, by omega, by omega, rfl⟩
    · rw [if_neg c2]
      exact ⟨1, by omega, by omega, rfl⟩
  · rw [if_neg c]
    exact ⟨6, by omega, by omega, rfl⟩
theorem held_br {x : Int32} {P : Int32 → Prop} (h : P (zz_held x)) : (1 ≤ x → ((x ≤ 6 → P x) ∧ (¬ x ≤ 6 → P 6))) ∧ (¬ 1 ≤ x → P 1) := by
  have t1 : (1 : Int32).toInt = 1 := by decide
  have t6 : (6 : Int32).toInt = 6 := by decide
  unfold zz_held at h
  by_cases c : x < 6
  · rw [if_pos c] at h
    have a := Int32.lt_iff_toInt_lt.mp c
    by_cases c2 : (1 : Int32) < x
    · rw [if_pos c2] at h
      have b := Int32.lt_iff_toInt_lt.mp c2
      exact ⟨fun _ => ⟨fun _ => h, fun z => absurd (Int32.le_iff_toInt_le.mpr (by omega)) z⟩, fun z => absurd (Int32.le_iff_toInt_le.mpr (by omega)) z⟩
    · rw [if_neg c2] at h
      have b : ¬ (1 : Int32).toInt < x.toInt := fun z => c2 (Int32.lt_iff_toInt_lt.mpr z)
      refine ⟨fun y => ?_, fun _ => h⟩
      have y2 := Int32.le_iff_toInt_le.mp y
      have e : x = 1 := Int32.toInt_inj.mp (by omega)
      rw [e]
      exact ⟨fun _ => h, fun z => absurd (by decide) z⟩
  · rw [if_neg c, if_pos (by decide)] at h
    have a : ¬ x.toInt < (6 : Int32).toInt := fun z => c (Int32.lt_iff_toInt_lt.mpr z)
    refine ⟨fun _ => ⟨fun y => ?_, fun _ => h⟩, fun z => absurd (Int32.le_iff_toInt_le.mpr (by omega)) z⟩
    have y2 := Int32.le_iff_toInt_le.mp y
    have e : x = 6 := Int32.toInt_inj.mp (by omega)
    rw [e]
    exact h
theorem RC_mg {W H : Nat} {u : zz_St} (hG : cG (A0 W H) u) (h5 : ∀ k, k < (A0 W H).S.length → sg_a u 5 k = -1) (h1 : ∀ c, c < 36 → sg_a u 1 c = 0) : RC (A0 W H) (zz_mg u) := by
  refine ⟨⟨hG, ⟨⟨Nat.zero_le 80, rfl, fun w hw => absurd hw (Nat.not_lt_zero w)⟩, ⟨fun r a z => (by cases z), fun i a hi => absurd hi (Nat.not_lt_zero i), fun k hk i hi => ⟨fun z => absurd z (bb_00 i), ?_⟩, fun k hk i hi => ⟨fun z => absurd z (bb_00 i), ?_⟩⟩⟩, rK_0, fun c hc => ⟨h1 c hc, Or.inl rfl⟩, h5⟩, ⟨fun _ => rfl, fun F hF => (by cases hF)⟩, rfl, rfl⟩
  · rintro ⟨a, z, -⟩
    cases z
  · rintro ⟨a, p, z, -⟩
    cases z
theorem start_C {a0 a1 : Int32} {W H : Nat} {post : zz_St → Prop} (w1 : 1 ≤ W) (w2 : W ≤ 6) (w3 : 1 ≤ H) (w4 : H ≤ 6) (e0 : zz_held a0 = nI W) (e1 : zz_held a1 = nI H) (h : ∀ u, RC (A0 W H) u → post u) : wp_X_init a0 a1 post := by
  unfold wp_X_init wp_G_init
  rw [e0, e1, pk_mul]
  have hG : rG W H (fun _ => 0) (sg_i (ss_i (ss_i (ss_i zz_u0 0 (nI W)) 1 (nI H)) 2 (nI (W * H))) 0) (sg_i (ss_i (ss_i (ss_i zz_u0 0 (nI W)) 1 (nI H)) 2 (nI (W * H))) 1) (sg_a (ss_i (ss_i (ss_i zz_u0 0 (nI W)) 1 (nI H)) 2 (nI (W * H))) 0) := by
    simp (decide := true) only [sx_il, sx_ia, sx_ib, sy_i, sz_i, sx_li, sx_la, sx_lb, sy_l, sz_l, sx_ai, sx_al, sx_ab, sy_a, sz_a, sx_bi, sx_bl, sx_ba, sy_b, sz_b]
    exact ⟨w1, w2, w3, w4, rfl, rfl, fun c _ => ⟨rfl, Nat.zero_le _⟩⟩
  refine sp_G_findSlots hG (fun f2 f3 f4 f6 f7 hP hT => h _ (RC_mg ?_ ?_ ?_))
  · unfold cG stS
    simp (decide := true) only [sx_il, sx_ia, sx_ib, sy_i, sz_i, sx_li, sx_la, sx_lb, sy_l, sz_l, sx_ai, sx_al, sx_ab, sy_a, sz_a, sx_bi, sx_bl, sx_ba, sy_b, sz_b]
    exact ⟨⟨w1, w2, w3, w4, rfl, rfl, fun c _ => ⟨rfl, Nat.zero_le _⟩⟩, rfl, rfl, hP, hT⟩
  · unfold stS
    simp (decide := true) only [sx_il, sx_ia, sx_ib, sy_i, sz_i, sx_li, sx_la, sx_lb, sy_l, sz_l, sx_ai, sx_al, sx_ab, sy_a, sz_a, sx_bi, sx_bl, sx_ba, sy_b, sz_b]
    exact fun k hk => flI_in (Nat.lt_of_lt_of_le hk (slS_len w2 w4))
  · unfold stS
    simp (decide := true) only [sx_il, sx_ia, sx_ib, sy_i, sz_i, sx_li, sx_la, sx_lb, sy_l, sz_l, sx_ai, sx_al, sx_ab, sy_a, sz_a, sx_bi, sx_bl, sx_ba, sy_b, sz_b]
theorem start_M {a0 a1 : Int32} {W H : Nat} {post : zz_St → Prop} (w1 : 1 ≤ W) (w2 : W ≤ 6) (w3 : 1 ≤ H) (w4 : H ≤ 6) (e0 : zz_held a0 = nI W) (e1 : zz_held a1 = nI H) (h : ∀ u, RM (A0 W H) u → post u) : wp_M_init a0 a1 post := by
  unfold wp_M_init
  refine held_br (P := fun w => (1 ≤ a1 → ((a1 ≤ 6 → wp_M_findSlots (ss_i (ss_i zz_u0 1 w) 2 a1) post) ∧ (¬ a1 ≤ 6 → wp_M_findSlots (ss_i (ss_i zz_u0 1 w) 2 6) post))) ∧ (¬ 1 ≤ a1 → wp_M_findSlots (ss_i (ss_i zz_u0 1 w) 2 1) post)) (held_br (P := fun y => wp_M_findSlots (ss_i (ss_i zz_u0 1 (zz_held a0)) 2 y) post) ?_)
  rw [e0, e1]
  have hG : rG W H (fun _ => 0) (sg_i (ss_i (ss_i zz_u0 1 (nI W)) 2 (nI H)) 1) (sg_i (ss_i (ss_i zz_u0 1 (nI W)) 2 (nI H)) 2) (sg_a (ss_i (ss_i zz_u0 1 (nI W)) 2 (nI H)) 0) := by
    simp (decide := true) only [sx_il, sx_ia, sx_ib, sy_i, sz_i, sx_li, sx_la, sx_lb, sy_l, sz_l, sx_ai, sx_al, sx_ab, sy_a, sz_a, sx_bi, sx_bl, sx_ba, sy_b, sz_b]
    exact ⟨w1, w2, w3, w4, rfl, rfl, fun c _ => ⟨rfl, Nat.zero_le _⟩⟩
  refine sp_M_findSlots hG (fun f6 f7 f8 f9 hM => h _ ⟨⟨?_, ?_, ?_, ?_, ?_⟩, ⟨fun _ => ?_, fun F hF => (by cases hF)⟩, ?_, ?_⟩)
  · unfold stM; simp (decide := true) only [sx_il, sx_ia, sx_ib, sy_i, sz_i, sx_li, sx_la, sx_lb, sy_l, sz_l, sx_ai, sx_al, sx_ab, sy_a, sz_a, sx_bi, sx_bl, sx_ba, sy_b, sz_b]
    exact ⟨⟨w1, w2, w3, w4, rfl, rfl, fun c _ => ⟨rfl, Nat.zero_le _⟩⟩, rfl, rfl, fun k e hk => ⟨(hM k e hk).1, (hM k e hk).2.1, (hM k e hk).2.2.1⟩⟩
  · unfold stM; simp (decide := true) only [sx_il, sx_ia, sx_ib, sy_i, sz_i, sx_li, sx_la, sx_lb, sy_l, sz_l, sx_ai, sx_al, sx_ab, sy_a, sz_a, sx_bi, sx_bl, sx_ba, sy_b, sz_b]
    exact ⟨Nat.zero_le 80, rfl, fun w hw => absurd hw (Nat.not_lt_zero w)⟩
  · unfold stM; simp (decide := true) only [sx_il, sx_ia, sx_ib, sy_i, sz_i, sx_li, sx_la, sx_lb, sy_l, sz_l, sx_ai, sx_al, sx_ab, sy_a, sz_a, sx_bi, sx_bl, sx_ba, sy_b, sz_b]
    exact rK_0
  · unfold stM; simp (decide := true) only [sx_il, sx_ia, sx_ib, sy_i, sz_i, sx_li, sx_la, sx_lb, sy_l, sz_l, sx_ai, sx_al, sx_ab, sy_a, sz_a, sx_bi, sx_bl, sx_ba, sy_b, sz_b]
    exact fun c _ => ⟨rfl, Or.inl rfl⟩
  · unfold stM; simp (decide := true) only [sx_il, sx_ia, sx_ib, sy_i, sz_i, sx_li, sx_la, sx_lb, sy_l, sz_l, sx_ai, sx_al, sx_ab, sy_a, sz_a, sx_bi, sx_bl, sx_ba, sy_b, sz_b]
    intro k hk
    exact (hM k _ (List.getElem?_eq_getElem hk)).2.2.2
  · unfold stM; simp (decide := true) only [sx_il, sx_ia, sx_ib, sy_i, sz_i, sx_li, sx_la, sx_lb, sy_l, sz_l, sx_ai, sx_al, sx_ab, sy_a, sz_a, sx_bi, sx_bl, sx_ba, sy_b, sz_b]
  · unfold stM; simp (decide := true) only [sx_il, sx_ia, sx_ib, sy_i, sz_i, sx_li, sx_la, sx_lb, sy_l, sz_l, sx_ai, sx_al, sx_ab, sy_a, sz_a, sx_bi, sx_bl, sx_ba, sy_b, sz_b]
    rfl
  · unfold stM; simp (decide := true) only [sx_il, sx_ia, sx_ib, sy_i, sz_i, sx_li, sx_la, sx_lb, sy_l, sz_l, sx_ai, sx_al, sx_ab, sy_a, sz_a, sx_bi, sx_bl, sx_ba, sy_b, sz_b]
    rfl
theorem law_end {L i : Nat} (hL : L ≤ 2050) (hi : i ≤ 3000) : (Int32.ofNat L - 4) < nI i ↔ L < i + 4 := by
  rw [Int32.lt_iff_toInt_lt, show Int32.ofNat L - 4 = nI L - nI 4 from rfl, pk_sub_toInt (by omega) (by omega), nI_toInt (by omega)]
  omega
theorem law_all {L : Nat} {xs : Nat → Int32} (hL : L ≤ 2050) : ∀ (t i : Nat) (A : AS) (uC uM : zz_St), EQ A uC uM → L ≤ i + 4 * t + 3 → i ≤ 3000 → wp_W_law_38_f L xs (t + 1) (nI i) uC uM := by
  intro t
  induction t with
  | zero =>
    intro i A uC uM h hi hi3
    show wp_W_law_38 L xs _ _ _ _
    unfold wp_W_law_38
    exact ⟨fun _ => trivial, fun z => absurd ((law_end hL hi3).mpr (by omega)) z⟩
  | succ t ih =>
    intro i A uC uM h hi hi3
    show wp_W_law_38 L xs (wp_W_law_38_f L xs (t + 1)) _ _ _
    generalize hkn : wp_W_law_38_f L xs (t + 1) = kn
    by_cases c : L < i + 4
    · unfold wp_W_law_38
      exact ⟨fun _ => trivial, fun z => absurd ((law_end hL hi3).mpr c) z⟩
    · have nx : ∀ {s s' : zz_St} {A' : AS}, EQ A' s s' → wp_W_law_526 L xs kn (nI i) s s' := fun {s s' A'} hE => by
        unfold wp_W_law_526
        rw [show (4 : Int32) = nI 4 from rfl, nI_add, ← hkn]
        exact ih (i + 4) A' s s' hE (by omega) (by omega)
      have fin : ∀ {r : Int32} {s s' : zz_St} {A' : AS}, EQ A' s s' → (r = r → wp_W_law_526 L xs kn (nI i) s s') ∧ (¬ r = r → False) := fun hE => ⟨fun _ => nx hE, fun z => absurd rfl z⟩
      have e1 : nI i + 1 = nI (i + 1) := nI_1 i
      have e2 : nI i + 2 = nI (i + 2) := nI_add i 2
      have e3 : nI i + 3 = nI (i + 3) := nI_add i 3
      have v0 : vp_in (nI i) L := pk_in i L (by omega) rfl (by omega)
      have v1 : vp_in (nI (i + 1)) L := pk_in (i + 1) L (by omega) rfl (by omega)
      have v2 : vp_in (nI (i + 2)) L := pk_in (i + 2) L (by omega) rfl (by omega)
      have v3 : vp_in (nI (i + 3)) L := pk_in (i + 3) L (by omega) rfl (by omega)
      have blk : ∀ b : Nat, b ≤ 1 → (b = 0 ↔ xs (i + 3) = 0) → wp_W_law_156 L xs kn (nI i) (nI b) (xs (i + 2)) (xs (i + 1)) uC uM := by
        intro b hb hbx
        unfold wp_W_law_156 wp_W_law_183
        rw [e1, e2, e3, nI_clamp (n := i + 1) (by omega), nI_clamp (n := i + 2) (by omega), nI_clamp (n := i + 3) (by omega)]
        refine bo_black hb h (fun r s K => ⟨v1, v2, v3, fun z => ?_, fun z => ?_⟩)
        · have eb := hbx.mpr z
          subst eb
          exact K _ (fun s' A' hE => fin hE)
        · have eb : b = 1 := by
            rcases (show b = 0 ∨ b = 1 by omega) with y | y
            · exact absurd (hbx.mp y) z
            · exact y
          subst eb
          exact K _ (fun s' A' hE => fin hE)
      unfold wp_W_law_38
      rw [e1, e2, e3, nI_clamp (n := i) (by omega), nI_clamp (n := i + 1) (by omega), nI_clamp (n := i + 2) (by omega), nI_clamp (n := i + 3) (by omega)]
      refine ⟨fun _ => trivial, fun _ => ⟨v0, fun _ => ⟨v1, v2, v3, fun z => blk 0 (by omega) ⟨fun _ => z, fun _ => rfl⟩, fun z => blk 1 (by omega) ⟨fun y => absurd y (by decide), fun y => absurd y z⟩⟩, fun _ => ⟨v1, ?_⟩, fun _ => ⟨v1, ?_⟩, fun _ => ⟨v1, v2, v3, ?_⟩, fun _ => ⟨v1, v2, ?_⟩, fun _ => ?_, fun _ => ⟨v1, v2, ?_⟩, fun _ => ⟨v1, ?_⟩, fun _ => ⟨v1, ?_⟩, fun _ => ?_, fun _ => ?_, fun _ => ?_, fun _ => ⟨v1, v2, ?_⟩, fun _ => ?_, fun _ => ⟨v1, ?_⟩, fun _ => ?_, fun _ => nx h⟩⟩
      · exact bo_unit h (fun r s K => ⟨v1, K _ (fun s' A' hE => fin hE)⟩)
      · exact bo_word h (fun r s K => ⟨v1, K _ (fun s' A' hE => fin hE)⟩)
      · exact bo_given h (fun r s K => ⟨v1, v2, v3, K _ (fun s' A' hE => fin hE)⟩)
      · exact bo_theme h (fun r s K => ⟨v1, v2, K _ (fun s' A' hE => fin hE)⟩)
      · exact bo_slots h (fun r s K => K _ (fun s' A' hE => fin hE))
      · exact bo_slot h (fun r s K => ⟨v1, v2, K _ (fun s' A' hE => fin hE)⟩)
      · exact bo_run h (fun r s K => ⟨v1, K _ (fun s' A' hE => fin hE)⟩)
      · exact bo_best h (fun r s K => ⟨v1, K _ (fun s' A' hE => fin hE)⟩)
      · exact bo_steps h (fun r s K => K _ (fun s' A' hE => fin hE))
      · exact bo_many h (fun r s K => K _ (fun s' A' hE => fin hE))
      · exact bo_score h (fun r s K => K _ (fun s' A' hE => fin hE))
      · exact bo_letter h (fun r s K => ⟨v1, v2, K _ (fun s' A' hE => fin hE)⟩)
      · exact bo_check h (fun r s K => K _ (fun s' A' hE => fin hE))
      · exact bo_alike h (fun r s K => ⟨v1, K _ (fun s' A' hE => fin hE)⟩)
      · exact bo_parts h (fun r s K => K _ (fun s' A' hE => fin hE))
theorem zz_pure_all : zz_pure := by
  intro L xs hL
  obtain ⟨W, w1, w2, e0⟩ := held_nat (zz_cv L xs 0)
  obtain ⟨H, w3, w4, e1⟩ := held_nat (zz_cv L xs 1)
  refine start_C w1 w2 w3 w4 e0 e1 (fun uC hC => start_M w1 w2 w3 w4 e0 e1 (fun uM hM => ⟨L + 1, ?_⟩))
  exact law_all hL L 2 (A0 W H) uC uM ⟨hC, hM, VA_0 W H⟩ (by omega) (by omega)
