theorem fd_cases (A : AS) : A.fd = none ∨ ∃ F, A.fd = some F := by
  cases h : A.fd with
  | none => exact Or.inl rfl
  | some F => exact Or.inr ⟨F, rfl⟩
theorem sum_nm1 {A : AS} {u : zz_St} (hB : CB A u) (hV : VA A) {F : Nat → Nat} (hF : A.fd = some F) : ¬ nI (sumF A.sc F A.S.length) = -1 := nI_nm1 (by
  have := okF_sum hB (hV.2.1 F hF)
  omega)
theorem bo_score {A : AS} {uC uM : zz_St} {P : Int32 → zz_St → Prop} (h : EQ A uC uM) (hP : ∀ r s, (∀ post : Int32 → zz_St → Prop, (∀ s' A', EQ A' s s' → post r s') → wp_M_score uM post) → P r s) : wp_X_score uC P := by
  obtain ⟨hRC, hRM, hva⟩ := id h
  obtain ⟨hB, hf, hst, hmn⟩ := id hRC
  obtain ⟨mB, mf, mst, mmn⟩ := id hRM
  have h24 := S_len mB.1.1
  have e5 := mB.1.2.1
  obtain ⟨n80, e4, hwd⟩ := id mB.2.1
  refine hP _ _ (fun post hp => ?_)
  have z := hp _ A ⟨h.1, RM_i0 (x := 0) h.2.1, h.2.2⟩
  unfold wp_M_score
  rcases fd_cases A with hF | ⟨F, hF⟩
  · rw [hf.1 hF] at z
    rw [mf.1 hF]
    exact ⟨fun _ => z, fun y => absurd rfl y⟩
  · rw [(hf.2 F hF).1] at z
    obtain ⟨m7, m11⟩ := mf.2 F hF
    rw [m7]
    refine ⟨fun y => absurd y (by decide), fun _ => ⟨A.S.length + 1, ?_⟩⟩
    suffices ∀ t j, j + t = A.S.length → wp_M_score_18_f post (t + 1) (nI (sumF A.sc F j)) (nI j) (ss_i uM 0 0) from this A.S.length 0 (Nat.zero_add _)
    intro t
    induction t with
    | zero =>
      intro j hj
      show wp_M_score_18 post _ _ _ _
      unfold wp_M_score_18
      simp (decide := true) only [sx_il, sx_ia, sx_ib, sy_i, sz_i, sx_li, sx_la, sx_lb, sy_l, sz_l, sx_ai, sx_al, sx_ab, sy_a, sz_a, sx_bi, sx_bl, sx_ba, sy_b, sz_b]
      rw [e5]
      have e : j = A.S.length := by omega
      subst e
      exact pk_le A.S.length A.S.length (fun _ => z) (fun z => absurd z (by omega))
    | succ t ih =>
      intro j hj
      show wp_M_score_18 post _ _ _ _
      unfold wp_M_score_18
      simp (decide := true) only [sx_il, sx_ia, sx_ib, sy_i, sz_i, sx_li, sx_la, sx_lb, sy_l, sz_l, sx_ai, sx_al, sx_ab, sy_a, sz_a, sx_bi, sx_bl, sx_ba, sy_b, sz_b]
      obtain ⟨e, he⟩ := S_get (A := A) (k := j) (by omega)
      have hwn := ((hva.2.1 F hF).1 j e he).1
      obtain ⟨-, -, sw, -, ew, -⟩ := hwd (F j) hwn
      have y := ih (j + 1) (by omega)
      rw [sumF] at y
      rw [e5, nI_clamp (n := j) (by omega), m11 j (by omega), nI_clamp (n := F j) (by omega), ew, nI_add, nI_1]
      refine pk_le A.S.length j (fun z => absurd z (by omega)) (fun _ => ⟨vin (by omega), vin (by omega), fun v ev => ?_⟩)
      subst ev
      exact y
theorem S_dir {A : AS} {k : Nat} {e : Nat × Nat × Nat} (h : A.S[k]? = some e) : (k < (preS A.W A.H A.bl 0 (A.W * A.H)).length ∧ e.2.2 = 0) ∨ ((preS A.W A.H A.bl 0 (A.W * A.H)).length ≤ k ∧ e.2.2 = 1) := by
  have hd : ∀ d, e ∈ preS A.W A.H A.bl d (A.W * A.H) → e.2.2 = d := fun d z => by
    unfold preS at z
    obtain ⟨c, -, rfl⟩ := List.mem_map.mp z
    rfl
  unfold AS.S slS at h
  rcases Nat.lt_or_ge k (preS A.W A.H A.bl 0 (A.W * A.H)).length with q | q
  · rw [List.getElem?_append_left q] at h
    exact Or.inl ⟨q, hd 0 (List.mem_of_getElem? h)⟩
  · rw [List.getElem?_append_right q] at h
    exact Or.inr ⟨q, hd 1 (List.mem_of_getElem? h)⟩
theorem bo_slot {A : AS} {a0 a1 : Int32} {uC uM : zz_St} {P : Int32 → zz_St → Prop} (h : EQ A uC uM) (hP : ∀ r s, (∀ post : Int32 → zz_St → Prop, (∀ s' A', EQ A' s s' → post r s') → wp_M_slot a0 a1 uM post) → P r s) : wp_X_slot a0 a1 uC P := by
  obtain ⟨hRC, hRM, hva⟩ := id h
  obtain ⟨hB, hf, hst, hmn⟩ := id hRC
  have h24 := S_len hB.1.1
  have hRM0 : RM A (ss_i uM 0 0) := RM_i0 hRM
  obtain ⟨mB, mf, mst, mmn⟩ := id hRM0
  unfold wp_X_slot
  unfold wp_M_slot at hP
  generalize ss_i uM 0 0 = v at *
  refine sp_G_hasSlot hB.1.2.2.1 h24 (fun k hk ek => ⟨fun z => absurd z (by decide), fun _ => ?_⟩) (fun hz => ⟨fun _ => hP _ _ (fun post hp => ?_), fun z => absurd rfl z⟩)
  · subst ek
    obtain ⟨e, he⟩ := S_get hk
    obtain ⟨-, l2, l6, l3, hcl⟩ := S_e hB.1.1 he
    obtain ⟨p2, p3, p4⟩ := hB.1.2.2.2.1 k e he
    obtain ⟨q6, q7, q8⟩ := mB.1.2.2.2 k e he
    have hE : EQ A uC v := ⟨hRC, hRM0, hva⟩
    have num : ∀ (a b : Int32), a ≠ b → ∀ X : Prop, (a = b → X) := fun a b n X z => absurd z n
    have out : ∀ (a : Int32), (0 ≤ a.toInt ∧ a.toInt ≤ 5) → ∀ X : Prop, ((a.toInt < 0 ∨ 5 < a.toInt) → X) := fun a z X y => by omega
    rw [nI_clamp (n := k) (by omega)]
    refine ⟨fun c => ⟨vin (by omega), hP _ _ (fun post hp => ?_)⟩, fun c => ⟨vin (by omega), hP _ _ (fun post hp => ?_)⟩, fun c => ⟨vin (by omega), hP _ _ (fun post hp => ?_)⟩, fun c => ⟨vin (by omega), hP _ _ (fun post hp => ?_)⟩, fun c => ?_, fun c => ?_, fun c => hP _ _ (fun post hp => ?_)⟩
    · subst c
      refine sp_M_isSlot mB.1.2.1 h24 (fun _ _ _ => ⟨fun z => absurd z (by decide), fun _ => ?_⟩) (fun z => (z k hk rfl).elim)
      refine ⟨fun _ => ⟨vin (by omega), ?_⟩, num _ _ (by decide) _, num _ _ (by decide) _, num _ _ (by decide) _, num _ _ (by decide) _, num _ _ (by decide) _, out _ (by decide) _⟩
      have z := hp _ A hE
      rw [p2] at z
      rw [nI_clamp (n := k) (by omega), q6]
      exact z
    · subst c
      refine sp_M_isSlot mB.1.2.1 h24 (fun _ _ _ => ⟨fun z => absurd z (by decide), fun _ => ?_⟩) (fun z => (z k hk rfl).elim)
      refine ⟨num _ _ (by decide) _, fun _ => ⟨vin (by omega), ?_⟩, num _ _ (by decide) _, num _ _ (by decide) _, num _ _ (by decide) _, num _ _ (by decide) _, out _ (by decide) _⟩
      have z := hp _ A hE
      rw [p3] at z
      rw [nI_clamp (n := k) (by omega), q7]
      exact z
    · subst c
      refine sp_M_isSlot mB.1.2.1 h24 (fun _ _ _ => ⟨fun z => absurd z (by decide), fun _ => ?_⟩) (fun z => (z k hk rfl).elim)
      refine ⟨num _ _ (by decide) _, num _ _ (by decide) _, fun _ => ?_, num _ _ (by decide) _, num _ _ (by decide) _, num _ _ (by decide) _, out _ (by decide) _⟩
      have z := hp _ A hE
      rw [p4] at z
      have hr24 : (preS A.W A.H A.bl 0 (A.W * A.H)).length ≤ 24 := by
        have : A.S.length = (preS A.W A.H A.bl 0 (A.W * A.H)).length + (preS A.W A.H A.bl 1 (A.W * A.H)).length := List.length_append
        omega
      rw [mB.1.2.2.1]
      rcases S_dir he with ⟨b1, b2⟩ | ⟨b1, b2⟩
      · rw [b2] at z
        exact pk_le (preS A.W A.H A.bl 0 (A.W * A.H)).length k (fun y => absurd y (by omega)) (fun _ => z)
      · rw [b2] at z
        exact pk_le (preS A.W A.H A.bl 0 (A.W * A.H)).length k (fun _ => z) (fun y => absurd y (by omega))
    · subst c
      refine sp_M_isSlot mB.1.2.1 h24 (fun _ _ _ => ⟨fun z => absurd z (by decide), fun _ => ?_⟩) (fun z => (z k hk rfl).elim)
      refine ⟨num _ _ (by decide) _, num _ _ (by decide) _, num _ _ (by decide) _, fun _ => ⟨vin (by omega), ?_⟩, num _ _ (by decide) _, num _ _ (by decide) _, out _ (by decide) _⟩
      have z := hp _ A hE
      rw [hB.2.2.2.2 k hk] at z
      rw [nI_clamp (n := k) (by omega), mB.2.2.2.2 k hk]
      exact z
    · subst c
      refine sp_S_countAtStart hB hva he (fun g4 g5 => hP _ _ (fun post hp => ?_))
      refine sp_M_isSlot mB.1.2.1 h24 (fun _ _ _ => ⟨fun z => absurd z (by decide), fun _ => ?_⟩) (fun z => (z k hk rfl).elim)
      refine ⟨num _ _ (by decide) _, num _ _ (by decide) _, num _ _ (by decide) _, num _ _ (by decide) _, fun _ => ?_, num _ _ (by decide) _, out _ (by decide) _⟩
      refine sp_M_clearNow ?_
      have hn : nowR A (fun _ => none) (ss_a v 10 (flI (-1) 36 (sg_a v 10))) := by
        unfold nowR
        simp (decide := true) only [sx_il, sx_ia, sx_ib, sy_i, sz_i, sx_li, sx_la, sx_lb, sy_l, sz_l, sx_ai, sx_al, sx_ab, sy_a, sz_a, sx_bi, sx_bl, sx_ba, sy_b, sz_b]
        intro j hj
        rw [flI_in (by omega)]
        rfl
      refine sp_M_spell (A := A) (asg := fun _ => none) (MB_a10 mB) hn cons_none (fun f hs => ?_)
      refine sp_M_countFor (A := A) (asg := fun _ => none) (MB_a12 (MB_a10 mB)) hva ?_ cons_none (by simp (decide := true) only [sx_il, sx_ia, sx_ib, sy_i, sz_i, sx_li, sx_la, sx_lb, sy_l, sz_l, sx_ai, sx_al, sx_ab, sy_a, sz_a, sx_bi, sx_bl, sx_ba, sy_b, sz_b]; exact hs) hk ?_
      · unfold nowR at hn ⊢
        simp (decide := true) only [sx_il, sx_ia, sx_ib, sy_i, sz_i, sx_li, sx_la, sx_lb, sy_l, sz_l, sx_ai, sx_al, sx_ab, sy_a, sz_a, sx_bi, sx_bl, sx_ba, sy_b, sz_b]
        intro j hj
        rw [flI_in (by omega)]
        rfl
      · exact hp _ A ⟨RC_b45 hRC, RM_a12 (RM_a10 hRM0), hva⟩
    · subst c
      unfold wp_F_wordOf
      rcases fd_cases A with hF | ⟨F, hF⟩
      · rw [hf.1 hF]
        refine ⟨fun _ => hP _ _ (fun post hp => ?_), fun z => absurd rfl z⟩
        refine sp_M_isSlot mB.1.2.1 h24 (fun _ _ _ => ⟨fun z => absurd z (by decide), fun _ => ?_⟩) (fun z => (z k hk rfl).elim)
        refine ⟨num _ _ (by decide) _, num _ _ (by decide) _, num _ _ (by decide) _, num _ _ (by decide) _, num _ _ (by decide) _, fun _ => ?_, out _ (by decide) _⟩
        rw [mf.1 hF]
        exact ⟨fun _ => hp _ A hE, fun z => absurd rfl z⟩
      · rw [(hf.2 F hF).1, nI_clamp (n := k) (by omega)]
        refine ⟨fun z => absurd z (sum_nm1 hB hva hF), fun _ => ⟨vin (by omega), hP _ _ (fun post hp => ?_)⟩⟩
        refine sp_M_isSlot mB.1.2.1 h24 (fun _ _ _ => ⟨fun z => absurd z (by decide), fun _ => ?_⟩) (fun z => (z k hk rfl).elim)
        refine ⟨num _ _ (by decide) _, num _ _ (by decide) _, num _ _ (by decide) _, num _ _ (by decide) _, num _ _ (by decide) _, fun _ => ?_, out _ (by decide) _⟩
        obtain ⟨m7, m11⟩ := mf.2 F hF
        have z := hp _ A hE
        rw [(hf.2 F hF).2 k hk] at z
        rw [m7, nI_clamp (n := k) (by omega), m11 k hk]
        exact ⟨fun y => absurd y (by decide), fun _ => ⟨vin (by omega), z⟩⟩
    · refine sp_M_isSlot mB.1.2.1 h24 (fun _ _ _ => ⟨fun z => absurd z (by decide), fun _ => ?_⟩) (fun z => (z k hk rfl).elim)
      have ne : ∀ b : Int32, (0 ≤ b.toInt ∧ b.toInt ≤ 5) → a1 ≠ b := fun b hb z => by
        rw [z] at c
        omega
      exact ⟨num _ _ (ne _ (by decide)) _, num _ _ (ne _ (by decide)) _, num _ _ (ne _ (by decide)) _, num _ _ (ne _ (by decide)) _, num _ _ (ne _ (by decide)) _, num _ _ (ne _ (by decide)) _, fun _ => hp _ A hE⟩
  · exact sp_M_isSlot mB.1.2.1 h24 (fun k hk ek => (hz k hk ek).elim) (fun _ => ⟨fun _ => hp _ A ⟨hRC, hRM0, hva⟩, fun z => absurd rfl z⟩)
