theorem used_set {A : AS} {asg : Nat → Option Nat} {k w a : Nat} (hk : k < A.S.length) (hn : asg k = none) : usedA A (setA asg k w) a ↔ (usedA A asg a ∨ a = w) := by
  unfold usedA setA
  constructor
  · rintro ⟨j, h1, h2⟩
    by_cases e : j = k
    · rw [if_pos e] at h2
      cases h2
      exact Or.inr rfl
    · rw [if_neg e] at h2
      exact Or.inl ⟨j, h1, h2⟩
  · rintro (⟨j, h1, h2⟩ | rfl)
    · refine ⟨j, h1, ?_⟩
      rw [if_neg (fun z => by rw [z, hn] at h2; cases h2)]
      exact h2
    · exact ⟨k, hk, if_pos rfl⟩
theorem CS_b {A : AS} {all : Bool} {most : Nat} {asg : Nat → Option Nat} {s : Sg} {u : zz_St} {g4 g5 : Nat → Int64} (h : CS A all most asg s u) : CS A all most asg s (ss_b (ss_b u 4 g4) 5 g5) := by
  obtain ⟨hB, c8, c9, c10, c11, c12, cf, c7, c16, cU⟩ := h
  exact ⟨CB_b5 (CB_b4 hB), by simp (decide := true) only [sx_il, sx_ia, sx_ib, sy_i, sz_i, sx_li, sx_la, sx_lb, sy_l, sz_l, sx_ai, sx_al, sx_ab, sy_a, sz_a, sx_bi, sx_bl, sx_ba, sy_b, sz_b]; exact c8, by simp (decide := true) only [sx_il, sx_ia, sx_ib, sy_i, sz_i, sx_li, sx_la, sx_lb, sy_l, sz_l, sx_ai, sx_al, sx_ab, sy_a, sz_a, sx_bi, sx_bl, sx_ba, sy_b, sz_b]; exact c9, by simp (decide := true) only [sx_il, sx_ia, sx_ib, sy_i, sz_i, sx_li, sx_la, sx_lb, sy_l, sz_l, sx_ai, sx_al, sx_ab, sy_a, sz_a, sx_bi, sx_bl, sx_ba, sy_b, sz_b]; exact c10, by simp (decide := true) only [sx_il, sx_ia, sx_ib, sy_i, sz_i, sx_li, sx_la, sx_lb, sy_l, sz_l, sx_ai, sx_al, sx_ab, sy_a, sz_a, sx_bi, sx_bl, sx_ba, sy_b, sz_b]; exact c11, by simp (decide := true) only [sx_il, sx_ia, sx_ib, sy_i, sz_i, sx_li, sx_la, sx_lb, sy_l, sz_l, sx_ai, sx_al, sx_ab, sy_a, sz_a, sx_bi, sx_bl, sx_ba, sy_b, sz_b]; exact c12, fdC_of cf (by simp (decide := true) only [sx_il, sx_ia, sx_ib, sy_i, sz_i, sx_li, sx_la, sx_lb, sy_l, sz_l, sx_ai, sx_al, sx_ab, sy_a, sz_a, sx_bi, sx_bl, sx_ba, sy_b, sz_b]) (by simp (decide := true) only [sx_il, sx_ia, sx_ib, sy_i, sz_i, sx_li, sx_la, sx_lb, sy_l, sz_l, sx_ai, sx_al, sx_ab, sy_a, sz_a, sx_bi, sx_bl, sx_ba, sy_b, sz_b]), by simp (decide := true) only [sx_il, sx_ia, sx_ib, sy_i, sz_i, sx_li, sx_la, sx_lb, sy_l, sz_l, sx_ai, sx_al, sx_ab, sy_a, sz_a, sx_bi, sx_bl, sx_ba, sy_b, sz_b]; exact c7, by simp (decide := true) only [sx_il, sx_ia, sx_ib, sy_i, sz_i, sx_li, sx_la, sx_lb, sy_l, sz_l, sx_ai, sx_al, sx_ab, sy_a, sz_a, sx_bi, sx_bl, sx_ba, sy_b, sz_b]; exact c16, by simp (decide := true) only [sx_il, sx_ia, sx_ib, sy_i, sz_i, sx_li, sx_la, sx_lb, sy_l, sz_l, sx_ai, sx_al, sx_ab, sy_a, sz_a, sx_bi, sx_bl, sx_ba, sy_b, sz_b]; exact cU⟩
theorem sp_S_tryWord {A : AS} {all : Bool} {most lv k r w : Nat} {e : Nat × Nat × Nat} {asg : Nat → Option Nat} {s : Sg} {u : zz_St} {post : Int32 → zz_St → Prop} {WF : Int32 → zz_St → (Int32 → zz_St → Prop) → Prop} {R : Bool × Sg} (hC : CS A all most asg s u) (hR : rowC A asg lv u) (hlv : lv < A.S.length) (hm : most ≤ 20000) (hs : s.st ≤ most) (hk : A.S[k]? = some e) (hn : asg k = none) (hr : (ordW A.sc A.n)[r]? = some w) (hf : fitA A asg k w) (hu : ¬ usedA A asg w)
    (hWF : s.st < most → ∀ u1, CS A all most (setA asg k w) (mkG (s.st + 1) s.mn s.fd s.ran) u1 → rowC A (setA asg k w) (lv + 1) u1 → ∀ Q : Int32 → zz_St → Prop, (∀ u2, CS A all most (setA asg k w) R.2 u2 → samC (lv + 1) u1 u2 → Q (nI (if R.1 = true then 1 else 0)) u2) → WF (nI (lv + 1)) u1 Q)
    (h1 : s.st < most → ∀ u', CS A all most asg R.2 u' → samC lv u u' → post (nI (if R.1 = true then 1 else 0)) u') (h0 : most ≤ s.st → ∀ u', CS A all most asg (mkG s.st s.mn s.fd true) u' → samC lv u u' → post 0 u') : wp_S_tryWord WF (nI lv) (nI k) (nI r) u post := by
  obtain ⟨hB, c8, c9, c10, c11, c12, cf, c7, c16, cU⟩ := id hC
  have h24 := S_len hB.1.1
  obtain ⟨hW, hQ⟩ := hB.2.1
  have n80 : A.n ≤ 80 := hW.1
  obtain ⟨rn, wn⟩ := ord_get hr
  have kn := (S_e hB.1.1 hk).1
  obtain ⟨-, -, sc1, -, scw, -⟩ := hW.2.2 w wn
  have hwl : A.len w = e.2.1 := by
    obtain ⟨e', a1, a2, -⟩ := hf
    rw [hk] at a1
    cases a1
    exact a2.1
  unfold wp_S_tryWord
  rw [c11, c8]
  refine pk_lt s.st most (fun hlt => ?_) (fun hge => ?_)
  · rw [nI_1, nI_clamp (n := r) (by omega), hQ.1 r w hr]
    rintro _ rfl
    refine ⟨vin (by omega), ?_⟩
    rintro _ rfl
    refine ⟨vin (by omega), ?_⟩
    rw [nI_clamp (n := k) (by omega), nI_clamp (n := w) (by omega)]
    refine sp_L_lowBit (by omega) (fun xl hl => ?_)
    rintro _ rfl
    refine sp_L_highBit (by omega) (fun xh hh => ?_)
    rintro _ rfl
    refine ⟨vin (by omega), ?_⟩
    have hbit := hasB_bit ordW_nodup hr hl hh
    simp (decide := true) only [sx_il, sx_ia, sx_ib, sy_i, sz_i, sx_li, sx_la, sx_lb, sy_l, sz_l, sx_ai, sx_al, sx_ab, sy_a, sz_a, sx_bi, sx_bl, sx_ba, sy_b, sz_b]
    rw [c7, scw, nI_add]
    rintro _ rfl
    have hB1 : CB A (ss_i (ss_l (ss_l (ss_a (ss_i u 11 (nI (s.st + 1))) 16 (upd (sg_a u 16) k (nI w))) 0 (sg_l u 0 ||| xl)) 1 (sg_l u 1 ||| xh)) 7 (nI (sumA A.sc asg A.S.length + A.sc w))) := CB_i7 (CB_l1 (CB_l0 (CB_a16 (CB_i11 hB))))
    have hC1 : CS A all most (setA asg k w) (mkG (s.st + 1) s.mn s.fd s.ran) (ss_i (ss_l (ss_l (ss_a (ss_i u 11 (nI (s.st + 1))) 16 (upd (sg_a u 16) k (nI w))) 0 (sg_l u 0 ||| xl)) 1 (sg_l u 1 ||| xh)) 7 (nI (sumA A.sc asg A.S.length + A.sc w))) := by
      refine ⟨hB1, by simp (decide := true) only [sx_il, sx_ia, sx_ib, sy_i, sz_i, sx_li, sx_la, sx_lb, sy_l, sz_l, sx_ai, sx_al, sx_ab, sy_a, sz_a, sx_bi, sx_bl, sx_ba, sy_b, sz_b]; exact c8, by simp (decide := true) only [sx_il, sx_ia, sx_ib, sy_i, sz_i, sx_li, sx_la, sx_lb, sy_l, sz_l, sx_ai, sx_al, sx_ab, sy_a, sz_a, sx_bi, sx_bl, sx_ba, sy_b, sz_b]; exact c9, by simp (decide := true) only [sx_il, sx_ia, sx_ib, sy_i, sz_i, sx_li, sx_la, sx_lb, sy_l, sz_l, sx_ai, sx_al, sx_ab, sy_a, sz_a, sx_bi, sx_bl, sx_ba, sy_b, sz_b]; exact c10, by simp (decide := true) only [sx_il, sx_ia, sx_ib, sy_i, sz_i, sx_li, sx_la, sx_lb, sy_l, sz_l, sx_ai, sx_al, sx_ab, sy_a, sz_a, sx_bi, sx_bl, sx_ba, sy_b, sz_b]; rfl, by simp (decide := true) only [sx_il, sx_ia, sx_ib, sy_i, sz_i, sx_li, sx_la, sx_lb, sy_l, sz_l, sx_ai, sx_al, sx_ab, sy_a, sz_a, sx_bi, sx_bl, sx_ba, sy_b, sz_b]; exact c12, fdC_of cf (by simp (decide := true) only [sx_il, sx_ia, sx_ib, sy_i, sz_i, sx_li, sx_la, sx_lb, sy_l, sz_l, sx_ai, sx_al, sx_ab, sy_a, sz_a, sx_bi, sx_bl, sx_ba, sy_b, sz_b]) (by simp (decide := true) only [sx_il, sx_ia, sx_ib, sy_i, sz_i, sx_li, sx_la, sx_lb, sy_l, sz_l, sx_ai, sx_al, sx_ab, sy_a, sz_a, sx_bi, sx_bl, sx_ba, sy_b, sz_b]), by simp (decide := true) only [sx_il, sx_ia, sx_ib, sy_i, sz_i, sx_li, sx_la, sx_lb, sy_l, sz_l, sx_ai, sx_al, sx_ab, sy_a, sz_a, sx_bi, sx_bl, sx_ba, sy_b, sz_b]; rw [sumA_set hn kn], ?_, ?_⟩
      · simp (decide := true) only [sx_il, sx_ia, sx_ib, sy_i, sz_i, sx_li, sx_la, sx_lb, sy_l, sz_l, sx_ai, sx_al, sx_ab, sy_a, sz_a, sx_bi, sx_bl, sx_ba, sy_b, sz_b]
        intro j hj
        unfold setA
        by_cases ej : j = k
        · rw [ej, pk_us, if_pos rfl]; rfl
        · rw [pk_un ej, if_neg ej]; exact c16 j hj
      · simp (decide := true) only [sx_il, sx_ia, sx_ib, sy_i, sz_i, sx_li, sx_la, sx_lb, sy_l, sz_l, sx_ai, sx_al, sx_ab, sy_a, sz_a, sx_bi, sx_bl, sx_ba, sy_b, sz_b]
        exact hasB_congr (hasB_or cU hbit) (fun a _ => (used_set kn hn).symm)
    have hR1 : rowC A asg lv (ss_i (ss_l (ss_l (ss_a (ss_i u 11 (nI (s.st + 1))) 16 (upd (sg_a u 16) k (nI w))) 0 (sg_l u 0 ||| xl)) 1 (sg_l u 1 ||| xh)) 7 (nI (sumA A.sc asg A.S.length + A.sc w))) := by
      unfold rowC
      simp (decide := true) only [sx_il, sx_ia, sx_ib, sy_i, sz_i, sx_li, sx_la, sx_lb, sy_l, sz_l, sx_ai, sx_al, sx_ab, sy_a, sz_a, sx_bi, sx_bl, sx_ba, sy_b, sz_b]
      exact hR
    have hsame : sg_b (ss_i (ss_l (ss_l (ss_a (ss_i u 11 (nI (s.st + 1))) 16 (upd (sg_a u 16) k (nI w))) 0 (sg_l u 0 ||| xl)) 1 (sg_l u 1 ||| xh)) 7 (nI (sumA A.sc asg A.S.length + A.sc w))) 4 = sg_b u 4 ∧ sg_b (ss_i (ss_l (ss_l (ss_a (ss_i u 11 (nI (s.st + 1))) 16 (upd (sg_a u 16) k (nI w))) 0 (sg_l u 0 ||| xl)) 1 (sg_l u 1 ||| xh)) 7 (nI (sumA A.sc asg A.S.length + A.sc w))) 5 = sg_b u 5 := ⟨by simp (decide := true) only [sx_il, sx_ia, sx_ib, sy_i, sz_i, sx_li, sx_la, sx_lb, sy_l, sz_l, sx_ai, sx_al, sx_ab, sy_a, sz_a, sx_bi, sx_bl, sx_ba, sy_b, sz_b], by simp (decide := true) only [sx_il, sx_ia, sx_ib, sy_i, sz_i, sx_li, sx_la, sx_lb, sy_l, sz_l, sx_ai, sx_al, sx_ab, sy_a, sz_a, sx_bi, sx_bl, sx_ba, sy_b, sz_b]⟩
    generalize ss_i (ss_l (ss_l (ss_a (ss_i u 11 (nI (s.st + 1))) 16 (upd (sg_a u 16) k (nI w))) 0 (sg_l u 0 ||| xl)) 1 (sg_l u 1 ||| xh)) 7 (nI (sumA A.sc asg A.S.length + A.sc w)) = v at *
    refine sp_S_narrowCrossing (asg := asg) hB1 hR1 hlv hk hn wn hwl (fun g4 g5 ho hb => ?_)
    rw [nI_1]
    refine hWF hlt _ (CS_b hC1) (fun j hj hja => by simp (decide := true) only [sx_il, sx_ia, sx_ib, sy_i, sz_i, sx_li, sx_la, sx_lb, sy_l, sz_l, sx_ai, sx_al, sx_ab, sy_a, sz_a, sx_bi, sx_bl, sx_ba, sy_b, sz_b]; exact hb j hj hja) _ (fun u2 hC2 hsm => ?_)
    obtain ⟨hB2, d8, d9, d10, d11, d12, df, d7, d16, dU⟩ := id hC2
    have scw2 := (hB2.2.1.1.2.2 w wn).2.2.2.2.1
    rw [d7, scw2, sumA_set hn kn, pk_sub (by omega), show sumA A.sc asg A.S.length + A.sc w - A.sc w = sumA A.sc asg A.S.length by omega]
    refine ⟨vin (by omega), ?_⟩
    rintro _ rfl
    refine sp_L_lowBit (by omega) (fun yl hl' => ?_)
    rintro _ rfl
    refine sp_L_highBit (by omega) (fun yh hh' => ?_)
    rintro _ rfl
    have hbit' := hasB_bit ordW_nodup hr hl' hh'
    refine ⟨vin (by omega), by cases R.1; exact Or.inl rfl; exact Or.inr rfl, ?_⟩
    simp (decide := true) only [sx_il, sx_ia, sx_ib, sy_i, sz_i, sx_li, sx_la, sx_lb, sy_l, sz_l, sx_ai, sx_al, sx_ab, sy_a, sz_a, sx_bi, sx_bl, sx_ba, sy_b, sz_b]
    refine h1 hlt _ ⟨CB_a16 (CB_l1 (CB_l0 (CB_i7 hB2))), by simp (decide := true) only [sx_il, sx_ia, sx_ib, sy_i, sz_i, sx_li, sx_la, sx_lb, sy_l, sz_l, sx_ai, sx_al, sx_ab, sy_a, sz_a, sx_bi, sx_bl, sx_ba, sy_b, sz_b]; exact d8, by simp (decide := true) only [sx_il, sx_ia, sx_ib, sy_i, sz_i, sx_li, sx_la, sx_lb, sy_l, sz_l, sx_ai, sx_al, sx_ab, sy_a, sz_a, sx_bi, sx_bl, sx_ba, sy_b, sz_b]; exact d9, by simp (decide := true) only [sx_il, sx_ia, sx_ib, sy_i, sz_i, sx_li, sx_la, sx_lb, sy_l, sz_l, sx_ai, sx_al, sx_ab, sy_a, sz_a, sx_bi, sx_bl, sx_ba, sy_b, sz_b]; exact d10, by simp (decide := true) only [sx_il, sx_ia, sx_ib, sy_i, sz_i, sx_li, sx_la, sx_lb, sy_l, sz_l, sx_ai, sx_al, sx_ab, sy_a, sz_a, sx_bi, sx_bl, sx_ba, sy_b, sz_b]; exact d11, by simp (decide := true) only [sx_il, sx_ia, sx_ib, sy_i, sz_i, sx_li, sx_la, sx_lb, sy_l, sz_l, sx_ai, sx_al, sx_ab, sy_a, sz_a, sx_bi, sx_bl, sx_ba, sy_b, sz_b]; exact d12, fdC_of df (by simp (decide := true) only [sx_il, sx_ia, sx_ib, sy_i, sz_i, sx_li, sx_la, sx_lb, sy_l, sz_l, sx_ai, sx_al, sx_ab, sy_a, sz_a, sx_bi, sx_bl, sx_ba, sy_b, sz_b]) (by simp (decide := true) only [sx_il, sx_ia, sx_ib, sy_i, sz_i, sx_li, sx_la, sx_lb, sy_l, sz_l, sx_ai, sx_al, sx_ab, sy_a, sz_a, sx_bi, sx_bl, sx_ba, sy_b, sz_b]), by simp (decide := true) only [sx_il, sx_ia, sx_ib, sy_i, sz_i, sx_li, sx_la, sx_lb, sy_l, sz_l, sx_ai, sx_al, sx_ab, sy_a, sz_a, sx_bi, sx_bl, sx_ba, sy_b, sz_b], ?_, ?_⟩ (fun i hi => ?_)
    · simp (decide := true) only [sx_il, sx_ia, sx_ib, sy_i, sz_i, sx_li, sx_la, sx_lb, sy_l, sz_l, sx_ai, sx_al, sx_ab, sy_a, sz_a, sx_bi, sx_bl, sx_ba, sy_b, sz_b]
      intro j hj
      by_cases ej : j = k
      · rw [ej, pk_us, hn]; rfl
      · rw [pk_un ej, d16 j hj]
        unfold setA
        rw [if_neg ej]
    · simp (decide := true) only [sx_il, sx_ia, sx_ib, sy_i, sz_i, sx_li, sx_la, sx_lb, sy_l, sz_l, sx_ai, sx_al, sx_ab, sy_a, sz_a, sx_bi, sx_bl, sx_ba, sy_b, sz_b]
      refine hasB_congr (hasB_andn dU hbit') (fun a _ => ?_)
      rw [used_set kn hn]
      constructor
      · rintro ⟨z | z, z2⟩
        · exact z
        · exact absurd z z2
      · intro z
        exact ⟨Or.inl z, fun z2 => hu (by rw [← z2]; exact z)⟩
    · simp (decide := true) only [sx_il, sx_ia, sx_ib, sy_i, sz_i, sx_li, sx_la, sx_lb, sy_l, sz_l, sx_ai, sx_al, sx_ab, sy_a, sz_a, sx_bi, sx_bl, sx_ba, sy_b, sz_b]
      obtain ⟨s1, s2⟩ := hsm i (Nat.lt_of_lt_of_le hi (Nat.mul_le_mul_right 24 (Nat.le_succ (lv + 1))))
      rw [s1, s2]
      simp (decide := true) only [sx_il, sx_ia, sx_ib, sy_i, sz_i, sx_li, sx_la, sx_lb, sy_l, sz_l, sx_ai, sx_al, sx_ab, sy_a, sz_a, sx_bi, sx_bl, sx_ba, sy_b, sz_b]
      obtain ⟨o1, o2⟩ := ho i hi
      rw [o1, o2, hsame.1, hsame.2]
      exact ⟨rfl, rfl⟩
  · refine h0 hge _ ⟨CB_i10 hB, by simp (decide := true) only [sx_il, sx_ia, sx_ib, sy_i, sz_i, sx_li, sx_la, sx_lb, sy_l, sz_l, sx_ai, sx_al, sx_ab, sy_a, sz_a, sx_bi, sx_bl, sx_ba, sy_b, sz_b]; exact c8, by simp (decide := true) only [sx_il, sx_ia, sx_ib, sy_i, sz_i, sx_li, sx_la, sx_lb, sy_l, sz_l, sx_ai, sx_al, sx_ab, sy_a, sz_a, sx_bi, sx_bl, sx_ba, sy_b, sz_b]; exact c9, by simp (decide := true) only [sx_il, sx_ia, sx_ib, sy_i, sz_i, sx_li, sx_la, sx_lb, sy_l, sz_l, sx_ai, sx_al, sx_ab, sy_a, sz_a, sx_bi, sx_bl, sx_ba, sy_b, sz_b]; rfl, by simp (decide := true) only [sx_il, sx_ia, sx_ib, sy_i, sz_i, sx_li, sx_la, sx_lb, sy_l, sz_l, sx_ai, sx_al, sx_ab, sy_a, sz_a, sx_bi, sx_bl, sx_ba, sy_b, sz_b]; exact c11, by simp (decide := true) only [sx_il, sx_ia, sx_ib, sy_i, sz_i, sx_li, sx_la, sx_lb, sy_l, sz_l, sx_ai, sx_al, sx_ab, sy_a, sz_a, sx_bi, sx_bl, sx_ba, sy_b, sz_b]; exact c12, fdC_of cf (by simp (decide := true) only [sx_il, sx_ia, sx_ib, sy_i, sz_i, sx_li, sx_la, sx_lb, sy_l, sz_l, sx_ai, sx_al, sx_ab, sy_a, sz_a, sx_bi, sx_bl, sx_ba, sy_b, sz_b]) (by simp (decide := true) only [sx_il, sx_ia, sx_ib, sy_i, sz_i, sx_li, sx_la, sx_lb, sy_l, sz_l, sx_ai, sx_al, sx_ab, sy_a, sz_a, sx_bi, sx_bl, sx_ba, sy_b, sz_b]), by simp (decide := true) only [sx_il, sx_ia, sx_ib, sy_i, sz_i, sx_li, sx_la, sx_lb, sy_l, sz_l, sx_ai, sx_al, sx_ab, sy_a, sz_a, sx_bi, sx_bl, sx_ba, sy_b, sz_b]; exact c7, by simp (decide := true) only [sx_il, sx_ia, sx_ib, sy_i, sz_i, sx_li, sx_la, sx_lb, sy_l, sz_l, sx_ai, sx_al, sx_ab, sy_a, sz_a, sx_bi, sx_bl, sx_ba, sy_b, sz_b]; exact c16, by simp (decide := true) only [sx_il, sx_ia, sx_ib, sy_i, sz_i, sx_li, sx_la, sx_lb, sy_l, sz_l, sx_ai, sx_al, sx_ab, sy_a, sz_a, sx_bi, sx_bl, sx_ba, sy_b, sz_b]; exact cU⟩ (fun i hi => by simp (decide := true) only [sx_il, sx_ia, sx_ib, sy_i, sz_i, sx_li, sx_la, sx_lb, sy_l, sz_l, sx_ai, sx_al, sx_ab, sy_a, sz_a, sx_bi, sx_bl, sx_ba, sy_b, sz_b])
