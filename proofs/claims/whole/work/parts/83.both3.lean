def cvr (A : AS) (d c : Nat) : Prop := ∃ (k : Nat) (e : Nat × Nat × Nat) (p : Nat), A.S[k]? = some e ∧ p < e.2.1 ∧ e.2.2 = d ∧ celp A.W e p = c
theorem sp_F_letterBy {A : AS} {u : zz_St} {post : Int32 → zz_St → Prop} {d c : Nat} (hR : RC A u) (hva : VA A) (hd : d < 2) (hc : c < 36)
    (h0 : (A.fd = none ∨ ¬ cvr A d c) → post 0 u)
    (h1 : ∀ (F : Nat → Nat) (k : Nat) (e : Nat × Nat × Nat) (p : Nat), A.fd = some F → A.S[k]? = some e → p < e.2.1 → e.2.2 = d → celp A.W e p = c → post (nI (A.lt (F k) p)) u) : wp_F_letterBy (nI c) (nI d) u post := by
  obtain ⟨hB, hf, hst, hmn⟩ := id hR
  have h24 := S_len hB.1.1
  have ei : nI d * 36 + nI c = nI (d * 36 + c) := by rw [show (36 : Int32) = nI 36 from rfl, pk_mul, nI_add]
  unfold wp_F_letterBy wp_G_slotAt
  rw [ei, nI_clamp (n := d * 36 + c) (by omega)]
  refine ⟨vin (by omega), ?_⟩
  rcases fd_cases A with hF | ⟨F, hF⟩
  · rw [hf.1 hF]
    exact ⟨fun _ => h0 (Or.inl hF), fun z => absurd rfl z⟩
  · obtain ⟨c6, c15⟩ := hf.2 F hF
    rw [c6]
    refine ⟨fun z => absurd z (sum_nm1 hB hva hF), fun _ => ?_⟩
    by_cases q : cvr A d c
    · obtain ⟨k, e, p, hk, hp, he, hcl⟩ := q
      have t := (thr_at hB hk hp).1
      obtain ⟨k1, -⟩ := S_e hB.1.1 hk
      rw [he, hcl] at t
      rw [t, nI_clamp (n := k) (by omega)]
      refine ⟨fun z => absurd z (nI_nm1 (by omega)), fun _ => ⟨vin (by omega), ?_⟩⟩
      obtain ⟨o1, o2⟩ := (hva.2.1 F hF).1 k e hk
      have pl := sp_G_placeAt (A := A) (u := u) (post := fun r6 s5 => wp_L_letterOf (sg_a u 15 k) r6 s5 (fun r8 s7 => post r8 s7)) hB hk hp (by
        show wp_L_letterOf (sg_a u 15 k) (nI p) u (fun r8 s7 => post r8 s7)
        rw [c15 k k1]
        exact sp_L_letterOf hB o1 (by omega) (h1 F k e p hF hk hp he hcl))
      rw [hcl, he] at pl
      exact pl
    · rcases hB.1.2.2.2.2.2 (d * 36 + c) (by omega) with t | ⟨k, e, p, a1, a2, a3⟩
      · rw [t]
        exact ⟨fun _ => h0 (Or.inr q), fun z => absurd rfl z⟩
      · obtain ⟨-, -, -, l3, hcl⟩ := S_e hB.1.1 a1
        have := hcl p a2
        exact absurd ⟨k, e, p, a1, a2, by omega, by omega⟩ q
theorem lt_ne0 {A : AS} {u : zz_St} (hB : CB A u) (hva : VA A) {F : Nat → Nat} (hF : A.fd = some F) {k p : Nat} {e : Nat × Nat × Nat} (hk : A.S[k]? = some e) (hp : p < e.2.1) : 97 ≤ A.lt (F k) p ∧ A.lt (F k) p ≤ 122 := by
  obtain ⟨o1, o2⟩ := (hva.2.1 F hF).1 k e hk
  exact ((hB.2.1.1.2.2 (F k) o1).2.2.2.2.2 p (by omega)).2
def cvr2 (A : AS) (c : Nat) : Prop := ∃ (k : Nat) (e : Nat × Nat × Nat) (p : Nat), A.S[k]? = some e ∧ p < e.2.1 ∧ celp A.W e p = c
theorem sp_F_letterAt {A : AS} {u : zz_St} {post : Int32 → zz_St → Prop} {c : Nat} (hR : RC A u) (hva : VA A) (hc : c < 36)
    (h0 : (A.fd = none ∨ ¬ cvr2 A c) → post 0 u)
    (h1 : ∀ (F : Nat → Nat) (k : Nat) (e : Nat × Nat × Nat) (p : Nat), A.fd = some F → A.S[k]? = some e → p < e.2.1 → celp A.W e p = c → post (nI (A.lt (F k) p)) u) : wp_F_letterAt (nI c) u post := by
  unfold wp_F_letterAt
  refine sp_F_letterBy (d := 0) hR hva (by decide) hc (fun z0 => ⟨fun _ => ?_, fun z => absurd rfl z⟩) (fun F k e p a1 a2 a3 a4 a5 => ⟨fun z => ?_, fun _ => h1 F k e p a1 a2 a3 a5⟩)
  · refine sp_F_letterBy (d := 1) hR hva (by decide) hc (fun z1 => h0 ?_) (fun F k e p a1 a2 a3 a4 a5 => h1 F k e p a1 a2 a3 a5)
    rcases z0 with z0 | z0
    · exact Or.inl z0
    · rcases z1 with z1 | z1
      · exact Or.inl z1
      · refine Or.inr ?_
        rintro ⟨k, e, p, b1, b2, b3⟩
        obtain ⟨-, -, -, l3, -⟩ := S_e hR.1.1.1 b1
        rcases (show e.2.2 = 0 ∨ e.2.2 = 1 by omega) with y | y
        · exact z0 ⟨k, e, p, b1, b2, y, b3⟩
        · exact z1 ⟨k, e, p, b1, b2, y, b3⟩
  · have b := lt_ne0 hR.1 hva a1 a2 a3
    have := nI_inj (a := A.lt (F k) p) (b := 0) (by omega) (by omega) z
    omega
theorem sp_M_letterAt {A : AS} {u : zz_St} {post : Int32 → zz_St → Prop} {x y : Nat} (hR : RM A u) (hva : VA A) (hx : x < A.W) (hy : y < A.H)
    (h0 : (A.fd = none ∨ ¬ cvr2 A (x + A.W * y)) → post 0 u)
    (h1 : ∀ (F : Nat → Nat) (k : Nat) (e : Nat × Nat × Nat) (p : Nat), A.fd = some F → A.S[k]? = some e → p < e.2.1 → celp A.W e p = x + A.W * y → post (nI (A.lt (F k) p)) u) : ∃ n, wp_M_letter_18_f post n (nI x) (nI y) 0 u := by
  obtain ⟨mB, mf, mst, mmn⟩ := id hR
  have h24 := S_len mB.1.1
  obtain ⟨w1, w2, w3, w4, e1, e2, -⟩ := id mB.1.1
  have e5 := mB.1.2.1
  obtain ⟨n80, e4, hwd⟩ := id mB.2.1
  have hcl36 := cell_lt hx hy
  have h36 := WH_le w2 w4
  have ec : nI A.W * nI y + nI x = nI (x + A.W * y) := by rw [pk_mul, nI_add, Nat.add_comm]
  refine ⟨A.S.length + 1, ?_⟩
  suffices ∀ t j, j + t = A.S.length → (∀ (k : Nat) (e : Nat × Nat × Nat) (p : Nat), k < j → A.S[k]? = some e → p < e.2.1 → celp A.W e p ≠ x + A.W * y) → wp_M_letter_18_f post (t + 1) (nI x) (nI y) (nI j) u from this A.S.length 0 (Nat.zero_add _) (fun k _ _ hk => absurd hk (Nat.not_lt_zero k))
  intro t
  induction t with
  | zero =>
    intro j hj hs
    show wp_M_letter_18 post _ _ _ _ _
    unfold wp_M_letter_18
    rw [e5]
    refine pk_le A.S.length j (fun _ => h0 (Or.inr ?_)) (fun z => absurd z (by omega))
    rintro ⟨k, e, p, b1, b2, b3⟩
    exact hs k e p (by have := (S_e mB.1.1 b1).1; omega) b1 b2 b3
  | succ t ih =>
    intro j hj hs
    show wp_M_letter_18 post _ _ _ _ _
    unfold wp_M_letter_18
    rw [e5]
    refine pk_le A.S.length j (fun z => absurd z (by omega)) (fun _ => ?_)
    rcases fd_cases A with hF | ⟨F, hF⟩
    · rw [mf.1 hF]
      exact ⟨fun _ => h0 (Or.inl hF), fun z => absurd rfl z⟩
    · obtain ⟨m7, m11⟩ := mf.2 F hF
      rw [m7]
      obtain ⟨e, he⟩ := S_get (A := A) (k := j) (by omega)
      obtain ⟨-, l2, l6, -, hcl⟩ := S_e mB.1.1 he
      obtain ⟨-, p7, -⟩ := mB.1.2.2.2 j e he
      obtain ⟨o1, o2⟩ := (hva.2.1 F hF).1 j e he
      obtain ⟨-, -, -, -, -, elt⟩ := hwd (F j) o1
      refine ⟨fun z => absurd z (by decide), fun _ => ⟨e.2.1 + 1, ?_⟩⟩
      suffices ∀ r i, i + r = e.2.1 → (∀ p, p < i → celp A.W e p ≠ x + A.W * y) → wp_M_letter_36_f post (wp_M_letter_18_f post (t + 1)) (r + 1) (nI x) (nI y) (nI j) (nI i) u from this e.2.1 0 (Nat.zero_add _) (fun p hp => absurd hp (Nat.not_lt_zero p))
      intro r
      induction r with
      | zero =>
        intro i hi hs2
        show wp_M_letter_36 post _ _ _ _ _ _ _
        unfold wp_M_letter_36
        rw [nI_clamp (n := j) (by omega), p7, nI_1]
        refine ⟨vin (by omega), pk_le e.2.1 i (fun _ => ih (j + 1) (by omega) (fun k e' p hk he' hp => ?_)) (fun z => absurd z (by omega))⟩
        by_cases q : k = j
        · subst q
          rw [he] at he'
          cases he'
          exact hs2 p (by omega)
        · exact hs k e' p (by omega) he' hp
      | succ r ih2 =>
        intro i hi hs2
        show wp_M_letter_36 post _ _ _ _ _ _ _
        unfold wp_M_letter_36
        rw [nI_clamp (n := j) (by omega), p7]
        refine ⟨vin (by omega), pk_le e.2.1 i (fun z => absurd z (by omega)) (fun _ => ?_)⟩
        refine sp_M_cellOf (A := A) mB he ?_
        have ei : 6 * nI (F j) + nI i = nI (F j * 6 + i) := by rw [show (6 : Int32) = nI 6 from rfl, pk_mul, nI_add, Nat.mul_comm]
        obtain ⟨el, -⟩ := elt i (by omega)
        have hc := hcl i (by omega)
        rw [e1, ec, m11 j (by omega), ei, nI_clamp (n := F j * 6 + i) (by omega), el, nI_1]
        refine pk_eq (celp A.W e i) (x + A.W * y) (fun q => ⟨vin (by omega), vin (by omega), h1 F j e i hF he (by omega) q⟩) (fun q => ih2 (i + 1) (by omega) (fun p hp => ?_))
        by_cases q2 : p = i
        · rw [q2]; exact q
        · exact hs2 p (by omega)
theorem bo_letter {A : AS} {a0 a1 : Int32} {uC uM : zz_St} {P : Int32 → zz_St → Prop} (h : EQ A uC uM) (hP : ∀ r s, (∀ post : Int32 → zz_St → Prop, (∀ s' A', EQ A' s s' → post r s') → wp_M_letter a0 a1 uM post) → P r s) : wp_X_letter a0 a1 uC P := by
  obtain ⟨hRC, hRM, hva⟩ := id h
  have hRM0 : RM A (ss_i uM 0 0) := RM_i0 hRM
  have hG := hRC.1.1.1
  obtain ⟨w1, w2, w3, w4, -⟩ := id hG
  have h36 := WH_le w2 w4
  unfold wp_X_letter
  unfold wp_M_letter at hP
  generalize ss_i uM 0 0 = v at *
  have hE : EQ A uC v := ⟨hRC, hRM0, hva⟩
  refine sp_G_cellAt hG (fun x y hx hy ex ey => ?_) (fun hz => ⟨fun _ => hP _ _ (fun post hp => ?_), fun z => absurd rfl z⟩)
  · subst ex ey
    have hc := cell_lt hx hy
    refine ⟨fun z => absurd z (nI_nm1 (by omega)), fun _ => ?_⟩
    refine sp_F_letterAt hRC hva (by omega) (fun z => hP _ _ (fun post hp => ?_)) (fun F k e p a1 a2 a3 a4 => hP _ _ (fun post hp => ?_))
    · refine sp_M_isCell hRM0.1.1.1 (fun _ _ _ _ _ _ => ⟨fun z => absurd z (by decide), fun _ => ?_⟩) (fun z => (z x y hx hy rfl rfl).elim)
      refine sp_M_letterAt hRM0 hva hx hy (fun _ => hp _ A hE) (fun F k e p b1 b2 b3 b4 => ?_)
      rcases z with z | z
      · rw [z] at b1; cases b1
      · exact absurd ⟨k, e, p, b2, b3, b4⟩ z
    · refine sp_M_isCell hRM0.1.1.1 (fun _ _ _ _ _ _ => ⟨fun z => absurd z (by decide), fun _ => ?_⟩) (fun z => (z x y hx hy rfl rfl).elim)
      refine sp_M_letterAt hRM0 hva hx hy (fun z => ?_) (fun F' k' e' p' b1 b2 b3 b4 => ?_)
      · rcases z with z | z
        · rw [z] at a1; cases a1
        · exact absurd ⟨k, e, p, a2, a3, a4⟩ z
      · rw [a1] at b1
        cases b1
        rw [(hva.2.1 F a1).2 k' e' k e p' p b2 a2 b3 a3 (b4.trans a4.symm)]
        exact hp _ A hE
  · exact sp_M_isCell hRM0.1.1.1 (fun x y hx hy ex ey => (hz x y hx hy ex ey).elim) (fun _ => ⟨fun _ => hp _ A hE, fun z => absurd rfl z⟩)
def badW (A : AS) (F : Nat → Nat) (k : Nat) : Prop := ∃ e, A.S[k]? = some e ∧ ((∃ t, A.th k = some t ∧ t ≠ F k) ∨ ∃ p, p < e.2.1 ∧ A.gv (celp A.W e p) ≠ 0 ∧ A.gv (celp A.W e p) ≠ A.lt (F k) p)
theorem sp_F_agrees {x y : Nat} {u : zz_St} {post : Int32 → zz_St → Prop} (hx : x < 1000) (hy : y < 1000) (h1 : (x = 0 ∨ x = y) → post 1 u) (h0 : ¬ (x = 0 ∨ x = y) → post 0 u) : wp_F_agrees (nI x) (nI y) u post := by
  unfold wp_F_agrees wp_F_agrees_9
  exact pk_eq x 0 (fun q => h1 (Or.inl q)) (fun q => pk_eq x y (fun q2 => h1 (Or.inr q2)) (fun q2 => h0 (fun z => z.elim q q2)))
theorem sp_F_holds {A : AS} {F : Nat → Nat} {k : Nat} {u : zz_St} {post : Int32 → zz_St → Prop} (hR : RC A u) (hva : VA A) (hF : A.fd = some F) (hk : k < A.S.length) (h1 : ¬ badW A F k → post 1 u) (h0 : badW A F k → post 0 u) : wp_F_holds (nI k) u post := by
  obtain ⟨hB, hf, hst, hmn⟩ := id hR
  obtain ⟨hG, ⟨hW, hQ⟩, hK, hV, hT⟩ := id hB
  have h24 := S_len hG.1
  obtain ⟨e, he⟩ := S_get hk
  obtain ⟨-, l2, l6, l3, hcl⟩ := S_e hG.1 he
  obtain ⟨-, p3, p4⟩ := hG.2.2.2.1 k e he
  obtain ⟨c6, c15⟩ := hf.2 F hF
  obtain ⟨okA1, okA2⟩ := hva.2.1 F hF
  obtain ⟨o1, o2⟩ := okA1 k e he
  have n80 := hW.1
  have fe : ∀ e', A.S[k]? = some e' → e' = e := fun e' z => by rw [he] at z; cases z; rfl
  have rest : (∀ t, A.th k = some t → t = F k) → wp_F_holds_33 post (nI k) u := by
    intro ht
    unfold wp_F_holds_33
    rw [nI_clamp (n := k) (by omega), p4]
    refine ⟨vin (by omega), fun v ev => ⟨e.2.1 + 1, ?_⟩⟩
    rw [show (1 : Int32) = nI 1 from rfl, pk_sub (by omega)] at ev
    subst ev
    suffices ∀ r p, p + r = e.2.1 → (∀ q, q < p → A.gv (celp A.W e q) = 0 ∨ A.gv (celp A.W e q) = A.lt (F k) q) → wp_F_holds_47_f post (r + 1) (nI k) (nI (1 - e.2.2)) (nI p) u from this e.2.1 0 (Nat.zero_add _) (fun q hq => absurd hq (Nat.not_lt_zero q))
    intro r
    induction r with
    | zero =>
      intro p hp hs
      show wp_F_holds_47 post _ _ _ _ _
      unfold wp_F_holds_47
      rw [nI_clamp (n := k) (by omega), p3]
      refine ⟨vin (by omega), pk_le e.2.1 p (fun _ => h1 ?_) (fun z => absurd z (by omega))⟩
      rintro ⟨e', y1, y2⟩
      have := fe e' y1
      subst this
      rcases y2 with ⟨t, y2, y3⟩ | ⟨q, y2, y3, y4⟩
      · exact y3 (ht t y2)
      · rcases hs q (by omega) with y | y
        · exact y3 y
        · exact y4 y
    | succ r ih =>
      intro p hp hs
      show wp_F_holds_47 post _ _ _ _ _
      unfold wp_F_holds_47
      rw [nI_clamp (n := k) (by omega), p3]
      refine ⟨vin (by omega), pk_le e.2.1 p (fun z => absurd z (by omega)) (fun _ => ?_)⟩
      have hc := hcl p (by omega)
      obtain ⟨gv1, gv2⟩ := hV _ hc
      have lb := lt_ne0 hB hva hF he (show p < e.2.1 by omega)
      refine sp_G_cellOfE (A := A) hB he ⟨vin (by omega), ?_⟩
      rw [c15 k hk]
      refine sp_L_letterOf hB o1 (by omega) ⟨vin hc, ?_⟩
      rw [nI_clamp (n := celp A.W e p) (by omega), gv1]
      refine sp_F_agrees (by omega) (by omega) (fun q => ⟨fun z => absurd z (by decide), fun _ => ?_⟩) (fun q => ⟨fun _ => h0 ⟨e, he, Or.inr ⟨p, by omega, fun z => q (Or.inl z), fun z => q (Or.inr z)⟩⟩, fun z => absurd rfl z⟩)
      have more : wp_F_holds_47_f post (r + 1) (nI k) (nI (1 - e.2.2)) (nI p + 1) u := by
        rw [nI_1]
        refine ih (p + 1) (by omega) (fun q' hq' => ?_)
        by_cases y : q' = p
        · rw [y]; exact q
        · exact hs q' (by omega)
      refine sp_F_letterBy (d := 1 - e.2.2) hR hva (by omega) hc (fun _ => ?_) (fun F' k' e' p' a1 a2 a3 a4 a5 => ?_)
      · exact sp_F_agrees (x := 0) (by omega) (by omega) (fun _ => ⟨fun z => absurd z (by decide), fun _ => more⟩) (fun z => absurd (Or.inl rfl) z)
      · rw [hF] at a1
        cases a1
        have el := okA2 k' e' k e p' p a2 he a3 (by omega) a5
        rw [el]
        exact sp_F_agrees (by omega) (by omega) (fun _ => ⟨fun z => absurd z (by decide), fun _ => more⟩) (fun z => absurd (Or.inr rfl) z)
  unfold wp_F_holds
  rw [nI_clamp (n := k) (by omega), hT k hk, c15 k hk]
  refine ⟨vin (by omega), ?_⟩
  cases ht : A.th k with
  | none => exact ⟨fun _ => rest (fun t z => by rw [ht] at z; cases z), fun z => absurd rfl z⟩
  | some t =>
    have hb := (hva.1 k e t he ht).1
    refine ⟨fun z => absurd z (nI_nm1 (by omega)), fun _ => ⟨vin (by omega), vin (by omega), pk_eq t (F k) (fun q => rest (fun t' z => by rw [ht] at z; cases z; exact q)) (fun q => h0 ⟨e, he, Or.inl ⟨t, ht, q⟩⟩)⟩⟩
theorem sp_F_first {A : AS} {F : Nat → Nat} {u : zz_St} {post : Int32 → zz_St → Prop} (hR : RC A u) (hva : VA A) (hF : A.fd = some F) (h1 : ∀ k, k < A.S.length → badW A F k → (∀ j, j < k → ¬ badW A F j) → post (1 + nI k) u) (h0 : (∀ k, k < A.S.length → ¬ badW A F k) → post 0 u) : ∃ n, wp_F_firstFault_12_f post n 0 u := by
  have h24 := S_len hR.1.1.1
  have e3 := hR.1.1.2.2.1
  refine ⟨A.S.length + 1, ?_⟩
  suffices ∀ t j, j + t = A.S.length → (∀ i, i < j → ¬ badW A F i) → wp_F_firstFault_12_f post (t + 1) (nI j) u from this A.S.length 0 (Nat.zero_add _) (fun i hi => absurd hi (Nat.not_lt_zero i))
  intro t
  induction t with
  | zero =>
    intro j hj hs
    show wp_F_firstFault_12 post _ _ _
    unfold wp_F_firstFault_12
    rw [e3]
    exact pk_le A.S.length j (fun _ => h0 (fun k hk => hs k (by omega))) (fun z => absurd z (by omega))
  | succ t ih =>
    intro j hj hs
    show wp_F_firstFault_12 post _ _ _
    unfold wp_F_firstFault_12
    rw [e3]
    refine pk_le A.S.length j (fun z => absurd z (by omega)) (fun _ => ?_)
    refine sp_F_holds hR hva hF (by omega) (fun q => ⟨fun z => absurd z (by decide), fun _ => ?_⟩) (fun q => ⟨fun _ => h1 j (by omega) q hs, fun z => absurd rfl z⟩)
    rw [nI_1]
    refine ih (j + 1) (by omega) (fun i hi => ?_)
    by_cases y : i = j
    · rw [y]; exact q
    · exact hs i (by omega)
theorem sp_M_first {A : AS} {F : Nat → Nat} {u : zz_St} {post : Int32 → zz_St → Prop} (hR : RM A u) (hva : VA A) (hF : A.fd = some F) (h1 : ∀ k, k < A.S.length → badW A F k → (∀ j, j < k → ¬ badW A F j) → post (1 + nI k) u) (h0 : (∀ k, k < A.S.length → ¬ badW A F k) → post 0 u) : ∃ n, wp_M_check_16_f post n 0 u := by
  obtain ⟨mB, mf, mst, mmn⟩ := id hR
  have h24 := S_len mB.1.1
  have e5 := mB.1.2.1
  obtain ⟨n80, e4, hwd⟩ := id mB.2.1
  obtain ⟨m7, m11⟩ := mf.2 F hF
  refine ⟨A.S.length + 1, ?_⟩
  suffices ∀ t j, j + t = A.S.length → (∀ i, i < j → ¬ badW A F i) → wp_M_check_16_f post (t + 1) (nI j) u from this A.S.length 0 (Nat.zero_add _) (fun i hi => absurd hi (Nat.not_lt_zero i))
  intro t
  induction t with
  | zero =>
    intro j hj hs
    show wp_M_check_16 post _ _ _
    unfold wp_M_check_16
    rw [e5]
    exact pk_le A.S.length j (fun _ => h0 (fun k hk => hs k (by omega))) (fun z => absurd z (by omega))
  | succ t ih =>
    intro j hj hs
    show wp_M_check_16 post _ _ _
    unfold wp_M_check_16
    obtain ⟨e, he⟩ := S_get (A := A) (k := j) (by omega)
    obtain ⟨-, l2, l6, l3, hcl⟩ := S_e mB.1.1 he
    obtain ⟨-, p7, -⟩ := mB.1.2.2.2 j e he
    obtain ⟨o1, o2⟩ := (hva.2.1 F hF).1 j e he
    obtain ⟨-, -, -, -, -, elt⟩ := hwd (F j) o1
    have fe : ∀ e', A.S[j]? = some e' → e' = e := fun e' z => by rw [he] at z; cases z; rfl
    have rest : (∀ t, A.th j = some t → t = F j) → wp_M_check_53 post (wp_M_check_16_f post (t + 1)) (nI j) u := by
      intro ht
      unfold wp_M_check_53
      refine ⟨e.2.1 + 1, ?_⟩
      suffices ∀ r p, p + r = e.2.1 → (∀ q, q < p → A.gv (celp A.W e q) = 0 ∨ A.gv (celp A.W e q) = A.lt (F j) q) → wp_M_check_55_f post (wp_M_check_16_f post (t + 1)) (r + 1) (nI j) (nI p) u from this e.2.1 0 (Nat.zero_add _) (fun q hq => absurd hq (Nat.not_lt_zero q))
      intro r
      induction r with
      | zero =>
        intro p hp hs2
        show wp_M_check_55 post _ _ _ _ _
        unfold wp_M_check_55
        rw [nI_clamp (n := j) (by omega), p7, nI_1]
        refine ⟨vin (by omega), pk_le e.2.1 p (fun _ => ih (j + 1) (by omega) (fun i hi => ?_)) (fun z => absurd z (by omega))⟩
        by_cases y : i = j
        · subst y
          rintro ⟨e', y1, y2⟩
          have := fe e' y1
          subst this
          rcases y2 with ⟨t, y2, y3⟩ | ⟨q, y2, y3, y4⟩
          · exact y3 (ht t y2)
          · rcases hs2 q (by omega) with y | y
            · exact y3 y
            · exact y4 y
        · exact hs i (by omega)
      | succ r ih2 =>
        intro p hp hs2
        show wp_M_check_55 post _ _ _ _ _
        unfold wp_M_check_55
        rw [nI_clamp (n := j) (by omega), p7]
        refine ⟨vin (by omega), pk_le e.2.1 p (fun z => absurd z (by omega)) (fun _ => ?_)⟩
        have hc := hcl p (by omega)
        obtain ⟨gv1, gv2⟩ := mB.2.2.2.1 _ hc
        obtain ⟨el, l97, l122⟩ := elt p (by omega)
        refine sp_M_cellOf (A := A) mB he ⟨vin hc, fun v ev => ?_⟩
        have ei : 6 * nI (F j) + nI p = nI (F j * 6 + p) := by rw [show (6 : Int32) = nI 6 from rfl, pk_mul, nI_add, Nat.mul_comm]
        rw [nI_clamp (n := celp A.W e p) (by omega), gv1] at ev
        subst ev
        rw [m11 j (by omega), ei, nI_clamp (n := F j * 6 + p) (by omega), el]
        have more : (A.gv (celp A.W e p) = 0 ∨ A.gv (celp A.W e p) = A.lt (F j) p) → wp_M_check_105 post (wp_M_check_16_f post (t + 1)) (wp_M_check_55_f post (wp_M_check_16_f post (t + 1)) (r + 1)) (nI j) (nI p) u := fun q => by
          unfold wp_M_check_105
          rw [nI_1]
          refine ih2 (p + 1) (by omega) (fun q' hq' => ?_)
          by_cases y : q' = p
          · rw [y]; exact q
          · exact hs2 q' (by omega)
        exact pk_eq (A.gv (celp A.W e p)) 0 (fun q => more (Or.inl q)) (fun q => ⟨vin (by omega), vin (by omega), pk_eq (A.gv (celp A.W e p)) (A.lt (F j) p) (fun q2 => more (Or.inr q2)) (fun q2 => h1 j (by omega) ⟨e, he, Or.inr ⟨p, by omega, q, q2⟩⟩ hs)⟩)
    rw [e5, nI_clamp (n := j) (by omega), mB.2.2.2.2 j (by omega), m11 j (by omega)]
    refine pk_le A.S.length j (fun z => absurd z (by omega)) (fun _ => ⟨vin (by omega), ?_⟩)
    cases ht : A.th j with
    | none => exact ⟨fun _ => rest (fun t z => by rw [ht] at z; cases z), fun z => absurd rfl z⟩
    | some t' =>
      have hb := (hva.1 j e t' he ht).1
      refine ⟨fun z => absurd z (nI_nm1 (by omega)), fun _ => ⟨vin (by omega), vin (by omega), pk_eq t' (F j) (fun q => rest (fun t2 z => by rw [ht] at z; cases z; exact q)) (fun q => h1 j (by omega) ⟨e, he, Or.inl ⟨t', ht, q⟩⟩ hs)⟩⟩
theorem bo_check {A : AS} {uC uM : zz_St} {P : Int32 → zz_St → Prop} (h : EQ A uC uM) (hP : ∀ r s, (∀ post : Int32 → zz_St → Prop, (∀ s' A', EQ A' s s' → post r s') → wp_M_check uM post) → P r s) : wp_X_check uC P := by
  obtain ⟨hRC, hRM, hva⟩ := id h
  have hRM0 : RM A (ss_i uM 0 0) := RM_i0 hRM
  have hE : EQ A uC (ss_i uM 0 0) := ⟨hRC, hRM0, hva⟩
  unfold wp_X_check wp_F_firstFault
  unfold wp_M_check at hP
  rcases fd_cases A with hF | ⟨F, hF⟩
  · rw [hRC.2.1.1 hF]
    rw [hRM.2.1.1 hF] at hP
    exact ⟨fun _ => hP _ _ (fun post hp => ⟨fun _ => hp _ A hE, fun z => absurd rfl z⟩), fun z => absurd rfl z⟩
  · rw [(hRC.2.1.2 F hF).1]
    rw [(hRM.2.1.2 F hF).1] at hP
    refine ⟨fun z => absurd z (sum_nm1 hRC.1 hva hF), fun _ => ?_⟩
    refine sp_F_first hRC hva hF (fun k hk hb hs => hP _ _ (fun post hp => ⟨fun z => absurd z (by decide), fun _ => ?_⟩)) (fun hz => hP _ _ (fun post hp => ⟨fun z => absurd z (by decide), fun _ => ?_⟩))
    · refine sp_M_first hRM0 hva hF (fun k' hk' hb' hs' => ?_) (fun hz => absurd hb (hz k hk))
      rcases Nat.lt_trichotomy k k' with y | y | y
      · exact absurd hb (hs' k y)
      · subst y; exact hp _ A hE
      · exact absurd hb' (hs k' y)
    · exact sp_M_first hRM0 hva hF (fun k' hk' hb' _ => absurd hb' (hz k' hk')) (fun _ => hp _ A hE)
