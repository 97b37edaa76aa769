noncomputable def nparts (W H : Nat) (bl : Nat → Nat) : Nat := ndc (W * H) (fun c => bl c = 0) (con W H bl)
def pD (W H : Nat) (bl L : Nat → Nat) (x y : Nat) : Prop := pE W H bl L x y (x + 1) y ∧ pE W H bl L x y x (y + 1)
theorem pD_mono {W H : Nat} {bl L L' : Nat → Nat} (h : ∀ a b, L a = L b → L' a = L' b) {x y : Nat} (q : pD W H bl L x y) : pD W H bl L' x y := ⟨fun o1 o2 => h _ _ (q.1 o1 o2), fun o1 o2 => h _ _ (q.2 o1 o2)⟩
theorem pJ_end {W H : Nat} {bl L : Nat → Nat} {k : Nat} (hJ : pJ W H bl L k) (hd : ∀ x y, y < H → x < W → pD W H bl L x y) : k = nparts W H bl := by
  rw [hJ.2.2]
  refine ndc_congr (fun d c hdc hc _ _ => ⟨hJ.2.1 d c (by omega) hc, fun q => ?_⟩)
  have := q (fun z => L d = L z) (fun p q hpq => ?_)
  · exact this.mp rfl
  · have e : L p = L q := by
      obtain ⟨x, y, ⟨o1, o2, rfl, rfl⟩ | ⟨o1, o2, rfl, rfl⟩⟩ := hpq
      · exact (hd x y (opn_iff.mp o1).2.1 (opn_iff.mp o1).1).1 o1 o2
      · exact (hd x y (opn_iff.mp o1).2.1 (opn_iff.mp o1).1).2 o1 o2
    show L d = L p ↔ L d = L q
    rw [e]
theorem ndc_le {N : Nat} {o : Nat → Prop} {R : Nat → Nat → Prop} : ndc N o R ≤ N := by
  unfold ndc
  rw [cntB_len]
  exact Nat.le_trans (List.length_filter_le _ _) (by rw [List.length_range]; exact Nat.le_refl _)
theorem sp_X_parts {W H : Nat} {bl : Nat → Nat} {u : zz_St} {post : Int32 → zz_St → Prop} (hG : rG W H bl (sg_i u 0) (sg_i u 1) (sg_a u 0)) (e2 : sg_i u 2 = nI (W * H)) (h : ∀ f, post (nI (nparts W H bl)) (ss_a u 8 f)) : wp_X_parts u post := by
  obtain ⟨w1, w2, w3, w4, ew, eh, hb⟩ := id hG
  have h36 := WH_le w2 w4
  unfold wp_X_parts wp_G_countParts
  generalize hQ : (fun (r2 : Int32) (s1 : zz_St) => post r2 s1) = Q
  have q1 : ∀ f, Q (nI (nparts W H bl)) (ss_a u 8 f) := fun f => by rw [← hQ]; exact h f
  have rows : ∀ t y L k f, y + t = H → pJ W H bl L k → (∀ c, c < W * H → f c = nI (L c)) → (∀ x y', y' < y → x < W → pD W H bl L x y') → wp_G_countParts_44_f Q (t + 1) (nI k) (nI y) (ss_a u 8 f) := by
    intro t
    induction t with
    | zero =>
      intro y L k f hy hJ hf hd
      show wp_G_countParts_44 Q _ _ _ _
      unfold wp_G_countParts_44
      simp (decide := true) only [sx_il, sx_ia, sx_ib, sy_i, sz_i, sx_li, sx_la, sx_lb, sy_l, sz_l, sx_ai, sx_al, sx_ab, sy_a, sz_a, sx_bi, sx_bl, sx_ba, sy_b, sz_b]
      rw [eh]
      refine pk_le H y (fun _ => ?_) (fun z => absurd z (by omega))
      rw [pJ_end hJ (fun x y' z1 z2 => hd x y' (by omega) z2)]
      exact q1 f
    | succ t ih =>
      intro y L k f hy hJ hf hd
      show wp_G_countParts_44 Q _ _ _ _
      unfold wp_G_countParts_44
      simp (decide := true) only [sx_il, sx_ia, sx_ib, sy_i, sz_i, sx_li, sx_la, sx_lb, sy_l, sz_l, sx_ai, sx_al, sx_ab, sy_a, sz_a, sx_bi, sx_bl, sx_ba, sy_b, sz_b]
      rw [eh]
      refine pk_le H y (fun z => absurd z (by omega)) (fun _ => ⟨W + 1, ?_⟩)
      suffices ∀ t2 x L k f, x + t2 = W → pJ W H bl L k → (∀ c, c < W * H → f c = nI (L c)) → (∀ x y', y' < y → x < W → pD W H bl L x y') → (∀ x', x' < x → pD W H bl L x' y) → wp_G_countParts_54_f Q (wp_G_countParts_44_f Q (t + 1)) (t2 + 1) (nI k) (nI y) (nI x) (ss_a u 8 f) from this W 0 L k f (Nat.zero_add W) hJ hf hd (fun x' z => absurd z (Nat.not_lt_zero x'))
      intro t2
      induction t2 with
      | zero =>
        intro x L k f hx hJ hf hd hd2
        show wp_G_countParts_54 Q _ _ _ _ _ _
        unfold wp_G_countParts_54
        simp (decide := true) only [sx_il, sx_ia, sx_ib, sy_i, sz_i, sx_li, sx_la, sx_lb, sy_l, sz_l, sx_ai, sx_al, sx_ab, sy_a, sz_a, sx_bi, sx_bl, sx_ba, sy_b, sz_b]
        rw [ew, nI_1 y]
        refine pk_le W x (fun _ => ih (y + 1) L k f (by omega) hJ hf (fun x' y' z1 z2 => ?_)) (fun z => absurd z (by omega))
        by_cases e : y' = y
        · rw [e]; exact hd2 x' (by omega)
        · exact hd x' y' (by omega) z2
      | succ t2 ih2 =>
        intro x L k f hx hJ hf hd hd2
        have hk36 : k ≤ W * H := by rw [hJ.2.2]; exact ndc_le
        show wp_G_countParts_54 Q _ _ _ _ _ _
        unfold wp_G_countParts_54
        simp (decide := true) only [sx_il, sx_ia, sx_ib, sy_i, sz_i, sx_li, sx_la, sx_lb, sy_l, sz_l, sx_ai, sx_al, sx_ab, sy_a, sz_a, sx_bi, sx_bl, sx_ba, sy_b, sz_b]
        rw [ew]
        refine pk_le W x (fun z => absurd z (by omega)) (fun _ => ?_)
        rw [nI_1 x]
        refine sp_G_join (L := L) (k := k) (by simp (decide := true) only [sx_il, sx_ia, sx_ib, sy_i, sz_i, sx_li, sx_la, sx_lb, sy_l, sz_l, sx_ai, sx_al, sx_ab, sy_a, sz_a, sx_bi, sx_bl, sx_ba, sy_b, sz_b]; exact hG) (by simp (decide := true) only [sx_il, sx_ia, sx_ib, sy_i, sz_i, sx_li, sx_la, sx_lb, sy_l, sz_l, sx_ai, sx_al, sx_ab, sy_a, sz_a, sx_bi, sx_bl, sx_ba, sy_b, sz_b]; exact e2) hJ (by simp (decide := true) only [sx_il, sx_ia, sx_ib, sy_i, sz_i, sx_li, sx_la, sx_lb, sy_l, sz_l, sx_ai, sx_al, sx_ab, sy_a, sz_a, sx_bi, sx_bl, sx_ba, sy_b, sz_b]; exact hf) (by omega) (by omega) (by omega) (by omega) (fun o1 o2 => con_adj ⟨x, y, Or.inl ⟨o1, o2, rfl, rfl⟩⟩) (fun L1 f1 k1 r1 hJ1 hf1 mo1 pe1 hr1 hk1 => ?_)
        rw [so_a]
        have step : wp_G_countParts_81 Q (wp_G_countParts_44_f Q (t + 1)) (wp_G_countParts_54_f Q (wp_G_countParts_44_f Q (t + 1)) (t2 + 1)) (nI y) (nI x) (nI r1) (nI k) (ss_a u 8 f1) := by
          unfold wp_G_countParts_81
          rw [pk_sub (show r1 ≤ k by omega), nI_1 y]
          intro v9 e9
          subst e9
          refine sp_G_join (L := L1) (k := k1) (by simp (decide := true) only [sx_il, sx_ia, sx_ib, sy_i, sz_i, sx_li, sx_la, sx_lb, sy_l, sz_l, sx_ai, sx_al, sx_ab, sy_a, sz_a, sx_bi, sx_bl, sx_ba, sy_b, sz_b]; exact hG) (by simp (decide := true) only [sx_il, sx_ia, sx_ib, sy_i, sz_i, sx_li, sx_la, sx_lb, sy_l, sz_l, sx_ai, sx_al, sx_ab, sy_a, sz_a, sx_bi, sx_bl, sx_ba, sy_b, sz_b]; exact e2) hJ1 (by simp (decide := true) only [sx_il, sx_ia, sx_ib, sy_i, sz_i, sx_li, sx_la, sx_lb, sy_l, sz_l, sx_ai, sx_al, sx_ab, sy_a, sz_a, sx_bi, sx_bl, sx_ba, sy_b, sz_b]; exact hf1) (by omega) (by omega) (by omega) (by omega) (fun o1 o2 => con_adj ⟨x, y, Or.inr ⟨o1, o2, rfl, rfl⟩⟩) (fun L2 f2 k2 r2 hJ2 hf2 mo2 pe2 hr2 hk2 => ?_)
          rw [so_a]
          have step2 : wp_G_countParts_102 Q (wp_G_countParts_44_f Q (t + 1)) (wp_G_countParts_54_f Q (wp_G_countParts_44_f Q (t + 1)) (t2 + 1)) (nI y) (nI x) (nI r2) (nI (k - r1)) (ss_a u 8 f2) := by
            unfold wp_G_countParts_102
            rw [pk_sub (show r2 ≤ k - r1 by omega), nI_1 x, show k - r1 - r2 = k2 by omega]
            intro v13 e13
            subst e13
            refine ih2 (x + 1) L2 k2 f2 (by omega) hJ2 hf2 (fun x' y' z1 z2 => pD_mono (fun a b z => mo2 a b (mo1 a b z)) (hd x' y' z1 z2)) (fun x' z => ?_)
            by_cases e : x' = x
            · rw [e]
              exact ⟨fun o1 o2 => mo2 _ _ (pe1 o1 o2), pe2⟩
            · exact pD_mono (fun a b z => mo2 a b (mo1 a b z)) (hd2 x' (by omega))
          rcases (show r2 = 0 ∨ r2 = 1 by omega) with e | e
          · subst e; exact ⟨fun _ => step2, fun z => absurd rfl z⟩
          · subst e; exact ⟨fun z => absurd z (by decide), fun _ => step2⟩
        rcases (show r1 = 0 ∨ r1 = 1 by omega) with e | e
        · subst e; exact ⟨fun _ => step, fun z => absurd rfl z⟩
        · subst e; exact ⟨fun z => absurd z (by decide), fun _ => step⟩
  refine ⟨W * H + 1, ?_⟩
  suffices ∀ t n f, n + t = W * H → (∀ c, c < n → f c = nI c) → wp_G_countParts_4_f Q (t + 1) (nI (cntB n (fun c => pB (bl c = 0)))) (nI n) (ss_a u 8 f) from by
    have q := this (W * H) 0 (sg_a u 8) (Nat.zero_add _) (fun c hc => absurd hc (Nat.not_lt_zero c))
    rw [ss_a_id] at q
    exact q
  intro t
  induction t with
  | zero =>
    intro n f hn hf
    show wp_G_countParts_4 Q _ _ _ _
    unfold wp_G_countParts_4
    simp (decide := true) only [sx_il, sx_ia, sx_ib, sy_i, sz_i, sx_li, sx_la, sx_lb, sy_l, sz_l, sx_ai, sx_al, sx_ab, sy_a, sz_a, sx_bi, sx_bl, sx_ba, sy_b, sz_b]
    rw [e2]
    refine pk_le (W * H) n (fun _ => ⟨H + 1, ?_⟩) (fun z => absurd z (by omega))
    have hnn : n = W * H := by omega
    subst hnn
    refine rows H 0 (fun c => c) _ f (Nat.zero_add _) ⟨fun c hc => by show c < 36; omega, fun a b _ _ e => by replace e : a = b := e; rw [e]; exact con_refl b, ?_⟩ hf (fun x y' z => absurd z (Nat.not_lt_zero y'))
    refine cntB_congr (fun c hc => pB_congr ⟨fun q => ⟨q, fun d hd _ e => ?_⟩, fun q => q.1⟩)
    replace e : d = c := e
    omega
  | succ t ih =>
    intro n f hn hf
    show wp_G_countParts_4 Q _ _ _ _
    unfold wp_G_countParts_4 wp_G_countParts_34
    simp (decide := true) only [sx_il, sx_ia, sx_ib, sy_i, sz_i, sx_li, sx_la, sx_lb, sy_l, sz_l, sx_ai, sx_al, sx_ab, sy_a, sz_a, sx_bi, sx_bl, sx_ba, sy_b, sz_b]
    have hn36 : n < 36 := by omega
    have hle : cntB n (fun c => pB (bl c = 0)) ≤ n := by
      rw [cntB_len]
      exact Nat.le_trans (List.length_filter_le _ _) (by rw [List.length_range]; exact Nat.le_refl _)
    rw [e2, nI_clamp (n := n) (by omega), (hb n hn36).1, so_a]
    have fin : ∀ c, c < n + 1 → upd f n (nI n) c = nI c := fun c hc => by
      by_cases ec : c = n
      · rw [ec, pk_us]
      · rw [pk_un ec]; exact hf c (by omega)
    have hb1 := (hb n hn36).2
    refine pk_le (W * H) n (fun z => absurd z (by omega)) (fun _ => ⟨vin hn36, vin hn36, ?_⟩)
    refine pk_eq (bl n) 0 (fun e => ?_) (fun e => ?_)
    · intro v3 e3
      rw [show (1 : Int32) = nI 1 from rfl, nI_add] at e3
      subst e3
      rw [nI_1 n]
      have := ih (n + 1) (upd f n (nI n)) (by omega) fin
      rw [show cntB (n + 1) (fun c => pB (bl c = 0)) = cntB n (fun c => pB (bl c = 0)) + 1 by rw [cntB, if_pos (pB_iff.mpr e), Nat.add_comm]] at this
      exact this
    · intro v3 e3
      rw [show (0 : Int32) = nI 0 from rfl, nI_add] at e3
      subst e3
      rw [nI_1 n]
      have := ih (n + 1) (upd f n (nI n)) (by omega) fin
      rw [show cntB (n + 1) (fun c => pB (bl c = 0)) = cntB n (fun c => pB (bl c = 0)) + 0 by rw [cntB, if_neg (fun z => e (pB_iff.mp z)), Nat.add_comm]] at this
      exact this
