def EQ (A : AS) (u v : zz_St) : Prop := RC A u ∧ RM A v ∧ VA A
theorem RM_i0 {A : AS} {u : zz_St} {x : Int32} (h : RM A u) : RM A (ss_i u 0 x) := ⟨MB_i0 h.1, fdM_of h.2.1 (by simp (decide := true) only [sx_il, sx_ia, sx_ib, sy_i, sz_i, sx_li, sx_la, sx_lb, sy_l, sz_l, sx_ai, sx_al, sx_ab, sy_a, sz_a, sx_bi, sx_bl, sx_ba, sy_b, sz_b]) (by simp (decide := true) only [sx_il, sx_ia, sx_ib, sy_i, sz_i, sx_li, sx_la, sx_lb, sy_l, sz_l, sx_ai, sx_al, sx_ab, sy_a, sz_a, sx_bi, sx_bl, sx_ba, sy_b, sz_b]), by simp (decide := true) only [sx_il, sx_ia, sx_ib, sy_i, sz_i, sx_li, sx_la, sx_lb, sy_l, sz_l, sx_ai, sx_al, sx_ab, sy_a, sz_a, sx_bi, sx_bl, sx_ba, sy_b, sz_b]; exact h.2.2.1, by simp (decide := true) only [sx_il, sx_ia, sx_ib, sy_i, sz_i, sx_li, sx_la, sx_lb, sy_l, sz_l, sx_ai, sx_al, sx_ab, sy_a, sz_a, sx_bi, sx_bl, sx_ba, sy_b, sz_b]; exact h.2.2.2⟩
theorem RM_a10 {A : AS} {u : zz_St} {f : Nat → Int32} (h : RM A u) : RM A (ss_a u 10 f) := ⟨MB_a10 h.1, fdM_of h.2.1 (by simp (decide := true) only [sx_il, sx_ia, sx_ib, sy_i, sz_i, sx_li, sx_la, sx_lb, sy_l, sz_l, sx_ai, sx_al, sx_ab, sy_a, sz_a, sx_bi, sx_bl, sx_ba, sy_b, sz_b]) (by simp (decide := true) only [sx_il, sx_ia, sx_ib, sy_i, sz_i, sx_li, sx_la, sx_lb, sy_l, sz_l, sx_ai, sx_al, sx_ab, sy_a, sz_a, sx_bi, sx_bl, sx_ba, sy_b, sz_b]), by simp (decide := true) only [sx_il, sx_ia, sx_ib, sy_i, sz_i, sx_li, sx_la, sx_lb, sy_l, sz_l, sx_ai, sx_al, sx_ab, sy_a, sz_a, sx_bi, sx_bl, sx_ba, sy_b, sz_b]; exact h.2.2.1, by simp (decide := true) only [sx_il, sx_ia, sx_ib, sy_i, sz_i, sx_li, sx_la, sx_lb, sy_l, sz_l, sx_ai, sx_al, sx_ab, sy_a, sz_a, sx_bi, sx_bl, sx_ba, sy_b, sz_b]; exact h.2.2.2⟩
theorem RM_a12 {A : AS} {u : zz_St} {f : Nat → Int32} (h : RM A u) : RM A (ss_a u 12 f) := ⟨MB_a12 h.1, fdM_of h.2.1 (by simp (decide := true) only [sx_il, sx_ia, sx_ib, sy_i, sz_i, sx_li, sx_la, sx_lb, sy_l, sz_l, sx_ai, sx_al, sx_ab, sy_a, sz_a, sx_bi, sx_bl, sx_ba, sy_b, sz_b]) (by simp (decide := true) only [sx_il, sx_ia, sx_ib, sy_i, sz_i, sx_li, sx_la, sx_lb, sy_l, sz_l, sx_ai, sx_al, sx_ab, sy_a, sz_a, sx_bi, sx_bl, sx_ba, sy_b, sz_b]), by simp (decide := true) only [sx_il, sx_ia, sx_ib, sy_i, sz_i, sx_li, sx_la, sx_lb, sy_l, sz_l, sx_ai, sx_al, sx_ab, sy_a, sz_a, sx_bi, sx_bl, sx_ba, sy_b, sz_b]; exact h.2.2.1, by simp (decide := true) only [sx_il, sx_ia, sx_ib, sy_i, sz_i, sx_li, sx_la, sx_lb, sy_l, sz_l, sx_ai, sx_al, sx_ab, sy_a, sz_a, sx_bi, sx_bl, sx_ba, sy_b, sz_b]; exact h.2.2.2⟩
theorem RM_a17 {A : AS} {u : zz_St} {f : Nat → Int32} (h : RM A u) : RM A (ss_a u 17 f) := ⟨MB_a17 h.1, fdM_of h.2.1 (by simp (decide := true) only [sx_il, sx_ia, sx_ib, sy_i, sz_i, sx_li, sx_la, sx_lb, sy_l, sz_l, sx_ai, sx_al, sx_ab, sy_a, sz_a, sx_bi, sx_bl, sx_ba, sy_b, sz_b]) (by simp (decide := true) only [sx_il, sx_ia, sx_ib, sy_i, sz_i, sx_li, sx_la, sx_lb, sy_l, sz_l, sx_ai, sx_al, sx_ab, sy_a, sz_a, sx_bi, sx_bl, sx_ba, sy_b, sz_b]), by simp (decide := true) only [sx_il, sx_ia, sx_ib, sy_i, sz_i, sx_li, sx_la, sx_lb, sy_l, sz_l, sx_ai, sx_al, sx_ab, sy_a, sz_a, sx_bi, sx_bl, sx_ba, sy_b, sz_b]; exact h.2.2.1, by simp (decide := true) only [sx_il, sx_ia, sx_ib, sy_i, sz_i, sx_li, sx_la, sx_lb, sy_l, sz_l, sx_ai, sx_al, sx_ab, sy_a, sz_a, sx_bi, sx_bl, sx_ba, sy_b, sz_b]; exact h.2.2.2⟩
theorem RC_a8 {A : AS} {u : zz_St} {f : Nat → Int32} (h : RC A u) : RC A (ss_a u 8 f) := ⟨CB_a8 h.1, fdC_of h.2.1 (by simp (decide := true) only [sx_il, sx_ia, sx_ib, sy_i, sz_i, sx_li, sx_la, sx_lb, sy_l, sz_l, sx_ai, sx_al, sx_ab, sy_a, sz_a, sx_bi, sx_bl, sx_ba, sy_b, sz_b]) (by simp (decide := true) only [sx_il, sx_ia, sx_ib, sy_i, sz_i, sx_li, sx_la, sx_lb, sy_l, sz_l, sx_ai, sx_al, sx_ab, sy_a, sz_a, sx_bi, sx_bl, sx_ba, sy_b, sz_b]), by simp (decide := true) only [sx_il, sx_ia, sx_ib, sy_i, sz_i, sx_li, sx_la, sx_lb, sy_l, sz_l, sx_ai, sx_al, sx_ab, sy_a, sz_a, sx_bi, sx_bl, sx_ba, sy_b, sz_b]; exact h.2.2.1, by simp (decide := true) only [sx_il, sx_ia, sx_ib, sy_i, sz_i, sx_li, sx_la, sx_lb, sy_l, sz_l, sx_ai, sx_al, sx_ab, sy_a, sz_a, sx_bi, sx_bl, sx_ba, sy_b, sz_b]; exact h.2.2.2⟩
theorem RC_b45 {A : AS} {u : zz_St} {f g : Nat → Int64} (h : RC A u) : RC A (ss_b (ss_b u 4 f) 5 g) := ⟨CB_b5 (CB_b4 h.1), fdC_of h.2.1 (by simp (decide := true) only [sx_il, sx_ia, sx_ib, sy_i, sz_i, sx_li, sx_la, sx_lb, sy_l, sz_l, sx_ai, sx_al, sx_ab, sy_a, sz_a, sx_bi, sx_bl, sx_ba, sy_b, sz_b]) (by simp (decide := true) only [sx_il, sx_ia, sx_ib, sy_i, sz_i, sx_li, sx_la, sx_lb, sy_l, sz_l, sx_ai, sx_al, sx_ab, sy_a, sz_a, sx_bi, sx_bl, sx_ba, sy_b, sz_b]), by simp (decide := true) only [sx_il, sx_ia, sx_ib, sy_i, sz_i, sx_li, sx_la, sx_lb, sy_l, sz_l, sx_ai, sx_al, sx_ab, sy_a, sz_a, sx_bi, sx_bl, sx_ba, sy_b, sz_b]; exact h.2.2.1, by simp (decide := true) only [sx_il, sx_ia, sx_ib, sy_i, sz_i, sx_li, sx_la, sx_lb, sy_l, sz_l, sx_ai, sx_al, sx_ab, sy_a, sz_a, sx_bi, sx_bl, sx_ba, sy_b, sz_b]; exact h.2.2.2⟩
theorem bo_unit {A : AS} {a0 : Int32} {uC uM : zz_St} {P : Int32 → zz_St → Prop} (h : EQ A uC uM) (hP : ∀ r s, (∀ post : Int32 → zz_St → Prop, (∀ s' A', EQ A' s s' → post r s') → wp_M_unit a0 uM post) → P r s) : wp_X_unit a0 uC P := by
  obtain ⟨⟨⟨hG, hW, hK, hV, hT⟩, hf, hst, hmn⟩, hRM, hva⟩ := id h
  obtain ⟨⟨mG, mW, mK, mV, mT⟩, mf, mst, mmn⟩ := id hRM
  refine sp_X_unit hK (fun x x1 x2 ex hc => hP 1 _ (fun post hp => ?_)) (fun hz => hP 0 _ (fun post hp => ?_))
  · refine sp_M_unit mK (fun x' x1' x2' ex' _ => ?_) (fun z => absurd ⟨⟨x, x1, x2, ex⟩, hc⟩ z)
    have e : x' = x := nI_inj (by omega) (by omega) (ex'.symm.trans ex)
    subst e
    refine hp _ (mkA A.W A.H A.bl A.n A.len A.lt A.sc (A.cn + 1) (fun p => if p = A.cn then x' else A.cl p) A.gv A.th A.fd A.st A.mn) ⟨⟨⟨?_, ?_, ?_, ?_, ?_⟩, fdC_of hf (by simp (decide := true) only [sx_il, sx_ia, sx_ib, sy_i, sz_i, sx_li, sx_la, sx_lb, sy_l, sz_l, sx_ai, sx_al, sx_ab, sy_a, sz_a, sx_bi, sx_bl, sx_ba, sy_b, sz_b]) (by simp (decide := true) only [sx_il, sx_ia, sx_ib, sy_i, sz_i, sx_li, sx_la, sx_lb, sy_l, sz_l, sx_ai, sx_al, sx_ab, sy_a, sz_a, sx_bi, sx_bl, sx_ba, sy_b, sz_b]), by simp (decide := true) only [sx_il, sx_ia, sx_ib, sy_i, sz_i, sx_li, sx_la, sx_lb, sy_l, sz_l, sx_ai, sx_al, sx_ab, sy_a, sz_a, sx_bi, sx_bl, sx_ba, sy_b, sz_b]; exact hst, by simp (decide := true) only [sx_il, sx_ia, sx_ib, sy_i, sz_i, sx_li, sx_la, sx_lb, sy_l, sz_l, sx_ai, sx_al, sx_ab, sy_a, sz_a, sx_bi, sx_bl, sx_ba, sy_b, sz_b]; exact hmn⟩, ⟨⟨?_, ?_, ?_, ?_, ?_⟩, fdM_of mf (by simp (decide := true) only [sx_il, sx_ia, sx_ib, sy_i, sz_i, sx_li, sx_la, sx_lb, sy_l, sz_l, sx_ai, sx_al, sx_ab, sy_a, sz_a, sx_bi, sx_bl, sx_ba, sy_b, sz_b]) (by simp (decide := true) only [sx_il, sx_ia, sx_ib, sy_i, sz_i, sx_li, sx_la, sx_lb, sy_l, sz_l, sx_ai, sx_al, sx_ab, sy_a, sz_a, sx_bi, sx_bl, sx_ba, sy_b, sz_b]), by simp (decide := true) only [sx_il, sx_ia, sx_ib, sy_i, sz_i, sx_li, sx_la, sx_lb, sy_l, sz_l, sx_ai, sx_al, sx_ab, sy_a, sz_a, sx_bi, sx_bl, sx_ba, sy_b, sz_b]; exact mst, by simp (decide := true) only [sx_il, sx_ia, sx_ib, sy_i, sz_i, sx_li, sx_la, sx_lb, sy_l, sz_l, sx_ai, sx_al, sx_ab, sy_a, sz_a, sx_bi, sx_bl, sx_ba, sy_b, sz_b]; exact mmn⟩, hva⟩
    · unfold cG; simp (decide := true) only [sx_il, sx_ia, sx_ib, sy_i, sz_i, sx_li, sx_la, sx_lb, sy_l, sz_l, sx_ai, sx_al, sx_ab, sy_a, sz_a, sx_bi, sx_bl, sx_ba, sy_b, sz_b]; exact hG
    · unfold cW; simp (decide := true) only [sx_il, sx_ia, sx_ib, sy_i, sz_i, sx_li, sx_la, sx_lb, sy_l, sz_l, sx_ai, sx_al, sx_ab, sy_a, sz_a, sx_bi, sx_bl, sx_ba, sy_b, sz_b]; exact hW
    · unfold cK; simp (decide := true) only [sx_il, sx_ia, sx_ib, sy_i, sz_i, sx_li, sx_la, sx_lb, sy_l, sz_l, sx_ai, sx_al, sx_ab, sy_a, sz_a, sx_bi, sx_bl, sx_ba, sy_b, sz_b]; exact rK_add hK hc x1 x2
    · unfold cV; simp (decide := true) only [sx_il, sx_ia, sx_ib, sy_i, sz_i, sx_li, sx_la, sx_lb, sy_l, sz_l, sx_ai, sx_al, sx_ab, sy_a, sz_a, sx_bi, sx_bl, sx_ba, sy_b, sz_b]; exact hV
    · unfold cT; simp (decide := true) only [sx_il, sx_ia, sx_ib, sy_i, sz_i, sx_li, sx_la, sx_lb, sy_l, sz_l, sx_ai, sx_al, sx_ab, sy_a, sz_a, sx_bi, sx_bl, sx_ba, sy_b, sz_b]; exact hT
    · simp (decide := true) only [sx_il, sx_ia, sx_ib, sy_i, sz_i, sx_li, sx_la, sx_lb, sy_l, sz_l, sx_ai, sx_al, sx_ab, sy_a, sz_a, sx_bi, sx_bl, sx_ba, sy_b, sz_b]; exact mG
    · simp (decide := true) only [sx_il, sx_ia, sx_ib, sy_i, sz_i, sx_li, sx_la, sx_lb, sy_l, sz_l, sx_ai, sx_al, sx_ab, sy_a, sz_a, sx_bi, sx_bl, sx_ba, sy_b, sz_b]; exact mW
    · simp (decide := true) only [sx_il, sx_ia, sx_ib, sy_i, sz_i, sx_li, sx_la, sx_lb, sy_l, sz_l, sx_ai, sx_al, sx_ab, sy_a, sz_a, sx_bi, sx_bl, sx_ba, sy_b, sz_b]; exact rK_add mK hc x1 x2
    · simp (decide := true) only [sx_il, sx_ia, sx_ib, sy_i, sz_i, sx_li, sx_la, sx_lb, sy_l, sz_l, sx_ai, sx_al, sx_ab, sy_a, sz_a, sx_bi, sx_bl, sx_ba, sy_b, sz_b]; exact mV
    · simp (decide := true) only [sx_il, sx_ia, sx_ib, sy_i, sz_i, sx_li, sx_la, sx_lb, sy_l, sz_l, sx_ai, sx_al, sx_ab, sy_a, sz_a, sx_bi, sx_bl, sx_ba, sy_b, sz_b]; exact mT
  · exact sp_M_unit mK (fun x x1 x2 ex hc => absurd ⟨⟨x, x1, x2, ex⟩, hc⟩ hz) (fun _ => hp _ A ⟨h.1, RM_i0 hRM, hva⟩)
theorem sumF_cg {sc sc' F : Nat → Nat} : ∀ {n : Nat}, (∀ k, k < n → sc (F k) = sc' (F k)) → sumF sc F n = sumF sc' F n := by
  intro n
  induction n with
  | zero => intro _; rfl
  | succ n ih =>
    intro h
    rw [sumF, sumF, ih (fun k hk => h k (by omega)), h n (by omega)]
theorem rK_0 {cl : Nat → Nat} {a : Nat → Int32} : rK 0 cl 0 a := ⟨by omega, rfl, fun p hp => absurd hp (Nat.not_lt_zero p)⟩
theorem VA_word {A : AS} {s : Nat} (h : VA A) : VA (mkA A.W A.H A.bl (A.n + 1) (len' A.n A.cn A.len) (lt' A.n A.cl A.lt) (sc' A.n s A.sc) 0 A.cl A.gv A.th A.fd A.st A.mn) := by
  obtain ⟨h1, h2, h3⟩ := h
  have hl : ∀ w, w < A.n → len' A.n A.cn A.len w = A.len w := fun w hw => if_neg (by omega)
  have ht : ∀ w p, w < A.n → lt' A.n A.cl A.lt w p = A.lt w p := fun w p hw => if_neg (by omega)
  refine ⟨fun k e w a b => ?_, fun F hF => ?_, h3⟩
  · obtain ⟨c1, c2⟩ := h1 k e w a b
    exact ⟨Nat.lt_succ_of_lt c1, (hl w c1).trans c2⟩
  · obtain ⟨o1, o2⟩ := h2 F hF
    refine ⟨fun k e a => ?_, fun k e k' e' p p' a b c d f => ?_⟩
    · obtain ⟨c1, c2⟩ := o1 k e a
      exact ⟨Nat.lt_succ_of_lt c1, (hl _ c1).trans c2⟩
    · exact ((ht _ p (o1 k e a).1).trans (o2 k e k' e' p p' a b c d f)).trans (ht _ p' (o1 k' e' b).1).symm
theorem bo_word {A : AS} {a0 : Int32} {uC uM : zz_St} {P : Int32 → zz_St → Prop} (h : EQ A uC uM) (hP : ∀ r s, (∀ post : Int32 → zz_St → Prop, (∀ s' A', EQ A' s s' → post r s') → wp_M_word a0 uM post) → P r s) : wp_X_word a0 uC P := by
  obtain ⟨⟨⟨hG, ⟨hW, hQ⟩, hK, hV, hT⟩, hf, hst, hmn⟩, hRM, hva⟩ := id h
  obtain ⟨⟨mG, mW, mK, mV, mT⟩, mf, mst, mmn⟩ := id hRM
  refine sp_X_word hW hQ hK (fun s s1 es hc hn hnw f9 f10 f11 f12 f13 g0 g1 g2 g3 hW' hQ' => hP _ _ (fun post hp => ?_)) (fun hz => hP _ _ (fun post hp => ?_))
  · refine sp_M_word mW mK (fun s' s1' es' _ _ _ f3 f4 f5 mW' => ?_) (fun z => absurd ⟨hc, ⟨s, s1, es⟩, hn, hnw⟩ z)
    have e : s' = s := nI_inj (by omega) (by omega) (es'.symm.trans es)
    subst e
    refine hp _ (mkA A.W A.H A.bl (A.n + 1) (len' A.n A.cn A.len) (lt' A.n A.cl A.lt) (sc' A.n s' A.sc) 0 A.cl A.gv A.th A.fd A.st A.mn) ⟨⟨⟨?_, ?_, ?_, ?_, ?_⟩, ?_, by unfold stW; simp (decide := true) only [sx_il, sx_ia, sx_ib, sy_i, sz_i, sx_li, sx_la, sx_lb, sy_l, sz_l, sx_ai, sx_al, sx_ab, sy_a, sz_a, sx_bi, sx_bl, sx_ba, sy_b, sz_b]; exact hst, by unfold stW; simp (decide := true) only [sx_il, sx_ia, sx_ib, sy_i, sz_i, sx_li, sx_la, sx_lb, sy_l, sz_l, sx_ai, sx_al, sx_ab, sy_a, sz_a, sx_bi, sx_bl, sx_ba, sy_b, sz_b]; exact hmn⟩, ⟨⟨?_, ?_, ?_, ?_, ?_⟩, fdM_of mf (by unfold stWM; simp (decide := true) only [sx_il, sx_ia, sx_ib, sy_i, sz_i, sx_li, sx_la, sx_lb, sy_l, sz_l, sx_ai, sx_al, sx_ab, sy_a, sz_a, sx_bi, sx_bl, sx_ba, sy_b, sz_b]) (by unfold stWM; simp (decide := true) only [sx_il, sx_ia, sx_ib, sy_i, sz_i, sx_li, sx_la, sx_lb, sy_l, sz_l, sx_ai, sx_al, sx_ab, sy_a, sz_a, sx_bi, sx_bl, sx_ba, sy_b, sz_b]), by unfold stWM; simp (decide := true) only [sx_il, sx_ia, sx_ib, sy_i, sz_i, sx_li, sx_la, sx_lb, sy_l, sz_l, sx_ai, sx_al, sx_ab, sy_a, sz_a, sx_bi, sx_bl, sx_ba, sy_b, sz_b]; exact mst, by unfold stWM; simp (decide := true) only [sx_il, sx_ia, sx_ib, sy_i, sz_i, sx_li, sx_la, sx_lb, sy_l, sz_l, sx_ai, sx_al, sx_ab, sy_a, sz_a, sx_bi, sx_bl, sx_ba, sy_b, sz_b]; exact mmn⟩, VA_word hva⟩
    · unfold cG stW; simp (decide := true) only [sx_il, sx_ia, sx_ib, sy_i, sz_i, sx_li, sx_la, sx_lb, sy_l, sz_l, sx_ai, sx_al, sx_ab, sy_a, sz_a, sx_bi, sx_bl, sx_ba, sy_b, sz_b]; exact hG
    · unfold cW stW; simp (decide := true) only [sx_il, sx_ia, sx_ib, sy_i, sz_i, sx_li, sx_la, sx_lb, sy_l, sz_l, sx_ai, sx_al, sx_ab, sy_a, sz_a, sx_bi, sx_bl, sx_ba, sy_b, sz_b]; exact ⟨hW', hQ'⟩
    · unfold cK stW; simp (decide := true) only [sx_il, sx_ia, sx_ib, sy_i, sz_i, sx_li, sx_la, sx_lb, sy_l, sz_l, sx_ai, sx_al, sx_ab, sy_a, sz_a, sx_bi, sx_bl, sx_ba, sy_b, sz_b]; exact rK_0
    · unfold cV stW; simp (decide := true) only [sx_il, sx_ia, sx_ib, sy_i, sz_i, sx_li, sx_la, sx_lb, sy_l, sz_l, sx_ai, sx_al, sx_ab, sy_a, sz_a, sx_bi, sx_bl, sx_ba, sy_b, sz_b]; exact hV
    · unfold cT stW; simp (decide := true) only [sx_il, sx_ia, sx_ib, sy_i, sz_i, sx_li, sx_la, sx_lb, sy_l, sz_l, sx_ai, sx_al, sx_ab, sy_a, sz_a, sx_bi, sx_bl, sx_ba, sy_b, sz_b]; exact hT
    · refine ⟨fun z => ?_, fun F hF => ?_⟩
      · unfold stW; simp (decide := true) only [sx_il, sx_ia, sx_ib, sy_i, sz_i, sx_li, sx_la, sx_lb, sy_l, sz_l, sx_ai, sx_al, sx_ab, sy_a, sz_a, sx_bi, sx_bl, sx_ba, sy_b, sz_b]; exact hf.1 z
      · obtain ⟨c1, c2⟩ := hf.2 F hF
        obtain ⟨o1, -⟩ := hva.2.1 F hF
        have e : sumF A.sc F A.S.length = sumF (sc' A.n s' A.sc) F A.S.length := sumF_cg (fun k hk => by
          obtain ⟨e, he⟩ := S_get hk
          have := (o1 k e he).1
          unfold sc'
          rw [if_neg (by omega)])
        rw [e] at c1
        refine ⟨?_, ?_⟩
        · unfold stW; simp (decide := true) only [sx_il, sx_ia, sx_ib, sy_i, sz_i, sx_li, sx_la, sx_lb, sy_l, sz_l, sx_ai, sx_al, sx_ab, sy_a, sz_a, sx_bi, sx_bl, sx_ba, sy_b, sz_b]; exact c1
        · unfold stW; simp (decide := true) only [sx_il, sx_ia, sx_ib, sy_i, sz_i, sx_li, sx_la, sx_lb, sy_l, sz_l, sx_ai, sx_al, sx_ab, sy_a, sz_a, sx_bi, sx_bl, sx_ba, sy_b, sz_b]; exact c2
    · unfold stWM; simp (decide := true) only [sx_il, sx_ia, sx_ib, sy_i, sz_i, sx_li, sx_la, sx_lb, sy_l, sz_l, sx_ai, sx_al, sx_ab, sy_a, sz_a, sx_bi, sx_bl, sx_ba, sy_b, sz_b]; exact mG
    · unfold stWM; simp (decide := true) only [sx_il, sx_ia, sx_ib, sy_i, sz_i, sx_li, sx_la, sx_lb, sy_l, sz_l, sx_ai, sx_al, sx_ab, sy_a, sz_a, sx_bi, sx_bl, sx_ba, sy_b, sz_b]; exact mW'
    · unfold stWM; simp (decide := true) only [sx_il, sx_ia, sx_ib, sy_i, sz_i, sx_li, sx_la, sx_lb, sy_l, sz_l, sx_ai, sx_al, sx_ab, sy_a, sz_a, sx_bi, sx_bl, sx_ba, sy_b, sz_b]; exact rK_0
    · unfold stWM; simp (decide := true) only [sx_il, sx_ia, sx_ib, sy_i, sz_i, sx_li, sx_la, sx_lb, sy_l, sz_l, sx_ai, sx_al, sx_ab, sy_a, sz_a, sx_bi, sx_bl, sx_ba, sy_b, sz_b]; exact mV
    · unfold stWM; simp (decide := true) only [sx_il, sx_ia, sx_ib, sy_i, sz_i, sx_li, sx_la, sx_lb, sy_l, sz_l, sx_ai, sx_al, sx_ab, sy_a, sz_a, sx_bi, sx_bl, sx_ba, sy_b, sz_b]; exact mT
  · refine sp_M_word mW mK (fun s s1 es hc hn hnw => absurd ⟨hc, ⟨s, s1, es⟩, hn, hnw⟩ hz) (fun _ => ?_)
    refine hp _ (mkA A.W A.H A.bl A.n A.len A.lt A.sc 0 A.cl A.gv A.th A.fd A.st A.mn) ⟨⟨⟨?_, ?_, ?_, ?_, ?_⟩, fdC_of hf (by simp (decide := true) only [sx_il, sx_ia, sx_ib, sy_i, sz_i, sx_li, sx_la, sx_lb, sy_l, sz_l, sx_ai, sx_al, sx_ab, sy_a, sz_a, sx_bi, sx_bl, sx_ba, sy_b, sz_b]) (by simp (decide := true) only [sx_il, sx_ia, sx_ib, sy_i, sz_i, sx_li, sx_la, sx_lb, sy_l, sz_l, sx_ai, sx_al, sx_ab, sy_a, sz_a, sx_bi, sx_bl, sx_ba, sy_b, sz_b]), by simp (decide := true) only [sx_il, sx_ia, sx_ib, sy_i, sz_i, sx_li, sx_la, sx_lb, sy_l, sz_l, sx_ai, sx_al, sx_ab, sy_a, sz_a, sx_bi, sx_bl, sx_ba, sy_b, sz_b]; exact hst, by simp (decide := true) only [sx_il, sx_ia, sx_ib, sy_i, sz_i, sx_li, sx_la, sx_lb, sy_l, sz_l, sx_ai, sx_al, sx_ab, sy_a, sz_a, sx_bi, sx_bl, sx_ba, sy_b, sz_b]; exact hmn⟩, ⟨⟨?_, ?_, ?_, ?_, ?_⟩, fdM_of mf (by simp (decide := true) only [sx_il, sx_ia, sx_ib, sy_i, sz_i, sx_li, sx_la, sx_lb, sy_l, sz_l, sx_ai, sx_al, sx_ab, sy_a, sz_a, sx_bi, sx_bl, sx_ba, sy_b, sz_b]) (by simp (decide := true) only [sx_il, sx_ia, sx_ib, sy_i, sz_i, sx_li, sx_la, sx_lb, sy_l, sz_l, sx_ai, sx_al, sx_ab, sy_a, sz_a, sx_bi, sx_bl, sx_ba, sy_b, sz_b]), by simp (decide := true) only [sx_il, sx_ia, sx_ib, sy_i, sz_i, sx_li, sx_la, sx_lb, sy_l, sz_l, sx_ai, sx_al, sx_ab, sy_a, sz_a, sx_bi, sx_bl, sx_ba, sy_b, sz_b]; exact mst, by simp (decide := true) only [sx_il, sx_ia, sx_ib, sy_i, sz_i, sx_li, sx_la, sx_lb, sy_l, sz_l, sx_ai, sx_al, sx_ab, sy_a, sz_a, sx_bi, sx_bl, sx_ba, sy_b, sz_b]; exact mmn⟩, hva⟩
    · unfold cG; simp (decide := true) only [sx_il, sx_ia, sx_ib, sy_i, sz_i, sx_li, sx_la, sx_lb, sy_l, sz_l, sx_ai, sx_al, sx_ab, sy_a, sz_a, sx_bi, sx_bl, sx_ba, sy_b, sz_b]; exact hG
    · unfold cW; simp (decide := true) only [sx_il, sx_ia, sx_ib, sy_i, sz_i, sx_li, sx_la, sx_lb, sy_l, sz_l, sx_ai, sx_al, sx_ab, sy_a, sz_a, sx_bi, sx_bl, sx_ba, sy_b, sz_b]; exact ⟨hW, hQ⟩
    · unfold cK; simp (decide := true) only [sx_il, sx_ia, sx_ib, sy_i, sz_i, sx_li, sx_la, sx_lb, sy_l, sz_l, sx_ai, sx_al, sx_ab, sy_a, sz_a, sx_bi, sx_bl, sx_ba, sy_b, sz_b]; exact rK_0
    · unfold cV; simp (decide := true) only [sx_il, sx_ia, sx_ib, sy_i, sz_i, sx_li, sx_la, sx_lb, sy_l, sz_l, sx_ai, sx_al, sx_ab, sy_a, sz_a, sx_bi, sx_bl, sx_ba, sy_b, sz_b]; exact hV
    · unfold cT; simp (decide := true) only [sx_il, sx_ia, sx_ib, sy_i, sz_i, sx_li, sx_la, sx_lb, sy_l, sz_l, sx_ai, sx_al, sx_ab, sy_a, sz_a, sx_bi, sx_bl, sx_ba, sy_b, sz_b]; exact hT
    · simp (decide := true) only [sx_il, sx_ia, sx_ib, sy_i, sz_i, sx_li, sx_la, sx_lb, sy_l, sz_l, sx_ai, sx_al, sx_ab, sy_a, sz_a, sx_bi, sx_bl, sx_ba, sy_b, sz_b]; exact mG
    · simp (decide := true) only [sx_il, sx_ia, sx_ib, sy_i, sz_i, sx_li, sx_la, sx_lb, sy_l, sz_l, sx_ai, sx_al, sx_ab, sy_a, sz_a, sx_bi, sx_bl, sx_ba, sy_b, sz_b]; exact mW
    · simp (decide := true) only [sx_il, sx_ia, sx_ib, sy_i, sz_i, sx_li, sx_la, sx_lb, sy_l, sz_l, sx_ai, sx_al, sx_ab, sy_a, sz_a, sx_bi, sx_bl, sx_ba, sy_b, sz_b]; exact rK_0
    · simp (decide := true) only [sx_il, sx_ia, sx_ib, sy_i, sz_i, sx_li, sx_la, sx_lb, sy_l, sz_l, sx_ai, sx_al, sx_ab, sy_a, sz_a, sx_bi, sx_bl, sx_ba, sy_b, sz_b]; exact mV
    · simp (decide := true) only [sx_il, sx_ia, sx_ib, sy_i, sz_i, sx_li, sx_la, sx_lb, sy_l, sz_l, sx_ai, sx_al, sx_ab, sy_a, sz_a, sx_bi, sx_bl, sx_ba, sy_b, sz_b]; exact mT
theorem rV_upd {gv : Nat → Nat} {a : Nat → Int32} {c g : Nat} (h : rV gv a) (hg : g = 0 ∨ 97 ≤ g ∧ g ≤ 122) : rV (fun i => if i = c then g else gv i) (upd a c (nI g)) := by
  intro i hi
  show upd a c (nI g) i = nI (if i = c then g else gv i) ∧ ((if i = c then g else gv i) = 0 ∨ 97 ≤ (if i = c then g else gv i) ∧ (if i = c then g else gv i) ≤ 122)
  by_cases q : i = c
  · subst q
    rw [pk_us, if_pos rfl]
    exact ⟨rfl, hg⟩
  · rw [pk_un q, if_neg q]
    exact h i hi
theorem bo_given {A : AS} {a0 a1 a2 : Int32} {uC uM : zz_St} {P : Int32 → zz_St → Prop} (h : EQ A uC uM) (hP : ∀ r s, (∀ post : Int32 → zz_St → Prop, (∀ s' A', EQ A' s s' → post r s') → wp_M_given a0 a1 a2 uM post) → P r s) : wp_X_given a0 a1 a2 uC P := by
  obtain ⟨⟨⟨hG, hW, hK, hV, hT⟩, hf, hst, hmn⟩, hRM, hva⟩ := id h
  obtain ⟨⟨mG, mW, mK, mV, mT⟩, mf, mst, mmn⟩ := id hRM
  have w2 := hG.1.2.1
  have w4 := hG.1.2.2.2.1
  refine sp_X_given hG.1 (fun x y g ho ex ey hg eg => hP _ _ (fun post hp => ?_)) (fun hz => hP _ _ (fun post hp => ?_))
  · refine sp_M_given mG.1 (fun x' y' g' ho' ex' ey' hg' eg' => ?_) (fun z => absurd ⟨x, y, g, ho, ex, ey, hg, eg⟩ z)
    obtain ⟨o1, o2, -⟩ := opn_iff.mp ho
    obtain ⟨o1', o2', -⟩ := opn_iff.mp ho'
    have e1 : x' = x := nI_inj (by omega) (by omega) (ex'.symm.trans ex)
    have e2 : y' = y := nI_inj (by omega) (by omega) (ey'.symm.trans ey)
    have e3 : g' = g := nI_inj (by omega) (by omega) (eg'.symm.trans eg)
    subst e1 e2 e3
    refine hp _ (mkA A.W A.H A.bl A.n A.len A.lt A.sc A.cn A.cl (fun i => if i = x' + A.W * y' then g' else A.gv i) A.th A.fd A.st A.mn) ⟨⟨⟨?_, ?_, ?_, ?_, ?_⟩, fdC_of hf (by simp (decide := true) only [sx_il, sx_ia, sx_ib, sy_i, sz_i, sx_li, sx_la, sx_lb, sy_l, sz_l, sx_ai, sx_al, sx_ab, sy_a, sz_a, sx_bi, sx_bl, sx_ba, sy_b, sz_b]) (by simp (decide := true) only [sx_il, sx_ia, sx_ib, sy_i, sz_i, sx_li, sx_la, sx_lb, sy_l, sz_l, sx_ai, sx_al, sx_ab, sy_a, sz_a, sx_bi, sx_bl, sx_ba, sy_b, sz_b]), by simp (decide := true) only [sx_il, sx_ia, sx_ib, sy_i, sz_i, sx_li, sx_la, sx_lb, sy_l, sz_l, sx_ai, sx_al, sx_ab, sy_a, sz_a, sx_bi, sx_bl, sx_ba, sy_b, sz_b]; exact hst, by simp (decide := true) only [sx_il, sx_ia, sx_ib, sy_i, sz_i, sx_li, sx_la, sx_lb, sy_l, sz_l, sx_ai, sx_al, sx_ab, sy_a, sz_a, sx_bi, sx_bl, sx_ba, sy_b, sz_b]; exact hmn⟩, ⟨⟨?_, ?_, ?_, ?_, ?_⟩, fdM_of mf (by simp (decide := true) only [sx_il, sx_ia, sx_ib, sy_i, sz_i, sx_li, sx_la, sx_lb, sy_l, sz_l, sx_ai, sx_al, sx_ab, sy_a, sz_a, sx_bi, sx_bl, sx_ba, sy_b, sz_b]) (by simp (decide := true) only [sx_il, sx_ia, sx_ib, sy_i, sz_i, sx_li, sx_la, sx_lb, sy_l, sz_l, sx_ai, sx_al, sx_ab, sy_a, sz_a, sx_bi, sx_bl, sx_ba, sy_b, sz_b]), by simp (decide := true) only [sx_il, sx_ia, sx_ib, sy_i, sz_i, sx_li, sx_la, sx_lb, sy_l, sz_l, sx_ai, sx_al, sx_ab, sy_a, sz_a, sx_bi, sx_bl, sx_ba, sy_b, sz_b]; exact mst, by simp (decide := true) only [sx_il, sx_ia, sx_ib, sy_i, sz_i, sx_li, sx_la, sx_lb, sy_l, sz_l, sx_ai, sx_al, sx_ab, sy_a, sz_a, sx_bi, sx_bl, sx_ba, sy_b, sz_b]; exact mmn⟩, hva⟩
    · unfold cG; simp (decide := true) only [sx_il, sx_ia, sx_ib, sy_i, sz_i, sx_li, sx_la, sx_lb, sy_l, sz_l, sx_ai, sx_al, sx_ab, sy_a, sz_a, sx_bi, sx_bl, sx_ba, sy_b, sz_b]; exact hG
    · unfold cW; simp (decide := true) only [sx_il, sx_ia, sx_ib, sy_i, sz_i, sx_li, sx_la, sx_lb, sy_l, sz_l, sx_ai, sx_al, sx_ab, sy_a, sz_a, sx_bi, sx_bl, sx_ba, sy_b, sz_b]; exact hW
    · unfold cK; simp (decide := true) only [sx_il, sx_ia, sx_ib, sy_i, sz_i, sx_li, sx_la, sx_lb, sy_l, sz_l, sx_ai, sx_al, sx_ab, sy_a, sz_a, sx_bi, sx_bl, sx_ba, sy_b, sz_b]; exact hK
    · unfold cV; simp (decide := true) only [sx_il, sx_ia, sx_ib, sy_i, sz_i, sx_li, sx_la, sx_lb, sy_l, sz_l, sx_ai, sx_al, sx_ab, sy_a, sz_a, sx_bi, sx_bl, sx_ba, sy_b, sz_b]; exact rV_upd hV hg
    · unfold cT; simp (decide := true) only [sx_il, sx_ia, sx_ib, sy_i, sz_i, sx_li, sx_la, sx_lb, sy_l, sz_l, sx_ai, sx_al, sx_ab, sy_a, sz_a, sx_bi, sx_bl, sx_ba, sy_b, sz_b]; exact hT
    · simp (decide := true) only [sx_il, sx_ia, sx_ib, sy_i, sz_i, sx_li, sx_la, sx_lb, sy_l, sz_l, sx_ai, sx_al, sx_ab, sy_a, sz_a, sx_bi, sx_bl, sx_ba, sy_b, sz_b]; exact mG
    · simp (decide := true) only [sx_il, sx_ia, sx_ib, sy_i, sz_i, sx_li, sx_la, sx_lb, sy_l, sz_l, sx_ai, sx_al, sx_ab, sy_a, sz_a, sx_bi, sx_bl, sx_ba, sy_b, sz_b]; exact mW
    · simp (decide := true) only [sx_il, sx_ia, sx_ib, sy_i, sz_i, sx_li, sx_la, sx_lb, sy_l, sz_l, sx_ai, sx_al, sx_ab, sy_a, sz_a, sx_bi, sx_bl, sx_ba, sy_b, sz_b]; exact mK
    · simp (decide := true) only [sx_il, sx_ia, sx_ib, sy_i, sz_i, sx_li, sx_la, sx_lb, sy_l, sz_l, sx_ai, sx_al, sx_ab, sy_a, sz_a, sx_bi, sx_bl, sx_ba, sy_b, sz_b]; exact rV_upd mV hg
    · simp (decide := true) only [sx_il, sx_ia, sx_ib, sy_i, sz_i, sx_li, sx_la, sx_lb, sy_l, sz_l, sx_ai, sx_al, sx_ab, sy_a, sz_a, sx_bi, sx_bl, sx_ba, sy_b, sz_b]; exact mT
  · exact sp_M_given mG.1 (fun x y g ho ex ey hg eg => absurd ⟨x, y, g, ho, ex, ey, hg, eg⟩ hz) (fun _ => hp _ A ⟨h.1, RM_i0 hRM, hva⟩)
theorem oI_inj {o o' : Option Nat} {n : Nat} (hn : n ≤ 80) (h : ∀ w, o = some w → w < n) (h' : ∀ w, o' = some w → w < n) (e : oI o = oI o') : o = o' := by
  cases o with
  | none =>
    cases o' with
    | none => rfl
    | some w' => exact absurd e.symm (nI_nm1 (by have := h' w' rfl; omega))
  | some w =>
    cases o' with
    | none => exact absurd e (nI_nm1 (by have := h w rfl; omega))
    | some w' =>
      have a := h w rfl
      have b := h' w' rfl
      rw [nI_inj (by omega) (by omega) e]
theorem bo_theme {A : AS} {a0 a1 : Int32} {uC uM : zz_St} {P : Int32 → zz_St → Prop} (h : EQ A uC uM) (hP : ∀ r s, (∀ post : Int32 → zz_St → Prop, (∀ s' A', EQ A' s s' → post r s') → wp_M_theme a0 a1 uM post) → P r s) : wp_X_theme a0 a1 uC P := by
  obtain ⟨⟨⟨hG, hW, hK, hV, hT⟩, hf, hst, hmn⟩, hRM, hva⟩ := id h
  obtain ⟨⟨mG, mW, mK, mV, mT⟩, mf, mst, mmn⟩ := id hRM
  have h24 := S_len hG.1
  have h6 : ∀ e ∈ A.S, e.2.1 ≤ 6 := fun e he => by
    obtain ⟨k, hk⟩ := List.mem_iff_getElem?.mp he
    exact (S_e hG.1 hk).2.2.1
  refine sp_X_theme hG.2.2.1 h24 hG.2.2.2.1 h6 hW.1.2.1 hW.1.1 (fun w hw => ⟨(hW.1.2.2 w hw).2.2.2.1, (hW.1.2.2 w hw).2.1⟩) (fun k e o hk ek eo hw => hP _ _ (fun post hp => ?_)) (fun hz => hP _ _ (fun post hp => ?_))
  · refine sp_M_theme mG.2.1 h24 mG.2.2.2 h6 mW.2.1 mW.1 (fun w hw => ⟨(mW.2.2 w hw).2.2.2.1, (mW.2.2 w hw).2.1⟩) (fun k' e' o' hk' ek' eo' hw' => ?_) (fun z => absurd ⟨k, e, o, hk, ek, eo, hw⟩ z)
    have a1 := (S_e hG.1 hk).1
    have a2 := (S_e hG.1 hk').1
    have e1 : k' = k := nI_inj (by omega) (by omega) (ek'.symm.trans ek)
    have e2 : o' = o := oI_inj hW.1.1 (fun w z => (hw' w z).1) (fun w z => (hw w z).1) (eo'.symm.trans eo)
    subst e1 e2
    have hup : ∀ f : Nat → Int32, (∀ j, j < A.S.length → f j = oI (A.th j)) → ∀ j, j < A.S.length → upd f k' (oI o') j = oI (if j = k' then o' else A.th j) := fun f hfj j hj => by
      by_cases q : j = k'
      · rw [q, pk_us, if_pos rfl]
      · rw [pk_un q, if_neg q]; exact hfj j hj
    refine hp _ (mkA A.W A.H A.bl A.n A.len A.lt A.sc A.cn A.cl A.gv (fun j => if j = k' then o' else A.th j) A.fd A.st A.mn) ⟨⟨⟨?_, ?_, ?_, ?_, ?_⟩, fdC_of hf (by simp (decide := true) only [sx_il, sx_ia, sx_ib, sy_i, sz_i, sx_li, sx_la, sx_lb, sy_l, sz_l, sx_ai, sx_al, sx_ab, sy_a, sz_a, sx_bi, sx_bl, sx_ba, sy_b, sz_b]) (by simp (decide := true) only [sx_il, sx_ia, sx_ib, sy_i, sz_i, sx_li, sx_la, sx_lb, sy_l, sz_l, sx_ai, sx_al, sx_ab, sy_a, sz_a, sx_bi, sx_bl, sx_ba, sy_b, sz_b]), by simp (decide := true) only [sx_il, sx_ia, sx_ib, sy_i, sz_i, sx_li, sx_la, sx_lb, sy_l, sz_l, sx_ai, sx_al, sx_ab, sy_a, sz_a, sx_bi, sx_bl, sx_ba, sy_b, sz_b]; exact hst, by simp (decide := true) only [sx_il, sx_ia, sx_ib, sy_i, sz_i, sx_li, sx_la, sx_lb, sy_l, sz_l, sx_ai, sx_al, sx_ab, sy_a, sz_a, sx_bi, sx_bl, sx_ba, sy_b, sz_b]; exact hmn⟩, ⟨⟨?_, ?_, ?_, ?_, ?_⟩, fdM_of mf (by simp (decide := true) only [sx_il, sx_ia, sx_ib, sy_i, sz_i, sx_li, sx_la, sx_lb, sy_l, sz_l, sx_ai, sx_al, sx_ab, sy_a, sz_a, sx_bi, sx_bl, sx_ba, sy_b, sz_b]) (by simp (decide := true) only [sx_il, sx_ia, sx_ib, sy_i, sz_i, sx_li, sx_la, sx_lb, sy_l, sz_l, sx_ai, sx_al, sx_ab, sy_a, sz_a, sx_bi, sx_bl, sx_ba, sy_b, sz_b]), by simp (decide := true) only [sx_il, sx_ia, sx_ib, sy_i, sz_i, sx_li, sx_la, sx_lb, sy_l, sz_l, sx_ai, sx_al, sx_ab, sy_a, sz_a, sx_bi, sx_bl, sx_ba, sy_b, sz_b]; exact mst, by simp (decide := true) only [sx_il, sx_ia, sx_ib, sy_i, sz_i, sx_li, sx_la, sx_lb, sy_l, sz_l, sx_ai, sx_al, sx_ab, sy_a, sz_a, sx_bi, sx_bl, sx_ba, sy_b, sz_b]; exact mmn⟩, ⟨fun j ej w hj hjw => ?_, hva.2⟩⟩
    · unfold cG; simp (decide := true) only [sx_il, sx_ia, sx_ib, sy_i, sz_i, sx_li, sx_la, sx_lb, sy_l, sz_l, sx_ai, sx_al, sx_ab, sy_a, sz_a, sx_bi, sx_bl, sx_ba, sy_b, sz_b]; exact hG
    · unfold cW; simp (decide := true) only [sx_il, sx_ia, sx_ib, sy_i, sz_i, sx_li, sx_la, sx_lb, sy_l, sz_l, sx_ai, sx_al, sx_ab, sy_a, sz_a, sx_bi, sx_bl, sx_ba, sy_b, sz_b]; exact hW
    · unfold cK; simp (decide := true) only [sx_il, sx_ia, sx_ib, sy_i, sz_i, sx_li, sx_la, sx_lb, sy_l, sz_l, sx_ai, sx_al, sx_ab, sy_a, sz_a, sx_bi, sx_bl, sx_ba, sy_b, sz_b]; exact hK
    · unfold cV; simp (decide := true) only [sx_il, sx_ia, sx_ib, sy_i, sz_i, sx_li, sx_la, sx_lb, sy_l, sz_l, sx_ai, sx_al, sx_ab, sy_a, sz_a, sx_bi, sx_bl, sx_ba, sy_b, sz_b]; exact hV
    · unfold cT; simp (decide := true) only [sx_il, sx_ia, sx_ib, sy_i, sz_i, sx_li, sx_la, sx_lb, sy_l, sz_l, sx_ai, sx_al, sx_ab, sy_a, sz_a, sx_bi, sx_bl, sx_ba, sy_b, sz_b]; exact hup _ hT
    · simp (decide := true) only [sx_il, sx_ia, sx_ib, sy_i, sz_i, sx_li, sx_la, sx_lb, sy_l, sz_l, sx_ai, sx_al, sx_ab, sy_a, sz_a, sx_bi, sx_bl, sx_ba, sy_b, sz_b]; exact mG
    · simp (decide := true) only [sx_il, sx_ia, sx_ib, sy_i, sz_i, sx_li, sx_la, sx_lb, sy_l, sz_l, sx_ai, sx_al, sx_ab, sy_a, sz_a, sx_bi, sx_bl, sx_ba, sy_b, sz_b]; exact mW
    · simp (decide := true) only [sx_il, sx_ia, sx_ib, sy_i, sz_i, sx_li, sx_la, sx_lb, sy_l, sz_l, sx_ai, sx_al, sx_ab, sy_a, sz_a, sx_bi, sx_bl, sx_ba, sy_b, sz_b]; exact mK
    · simp (decide := true) only [sx_il, sx_ia, sx_ib, sy_i, sz_i, sx_li, sx_la, sx_lb, sy_l, sz_l, sx_ai, sx_al, sx_ab, sy_a, sz_a, sx_bi, sx_bl, sx_ba, sy_b, sz_b]; exact mV
    · simp (decide := true) only [sx_il, sx_ia, sx_ib, sy_i, sz_i, sx_li, sx_la, sx_lb, sy_l, sz_l, sx_ai, sx_al, sx_ab, sy_a, sz_a, sx_bi, sx_bl, sx_ba, sy_b, sz_b]; exact hup _ mT
    · replace hj : A.S[j]? = some ej := hj
      replace hjw : (if j = k' then o' else A.th j) = some w := hjw
      by_cases q : j = k'
      · rw [if_pos q] at hjw
        rw [q, hk] at hj
        cases hj
        exact hw w hjw
      · rw [if_neg q] at hjw
        exact hva.1 j ej w hj hjw
  · exact sp_M_theme mG.2.1 h24 mG.2.2.2 h6 mW.2.1 mW.1 (fun w hw => ⟨(mW.2.2 w hw).2.2.2.1, (mW.2.2 w hw).2.1⟩) (fun k e o hk ek eo hw => absurd ⟨k, e, o, hk, ek, eo, hw⟩ hz) (fun _ => hp _ A ⟨h.1, RM_i0 hRM, hva⟩)
theorem rV_0 {a : Nat → Int32} : rV (fun _ => 0) (flI 0 36 a) := fun c hc => ⟨flI_in hc, Or.inl rfl⟩
theorem bo_black {A : AS} {a0 a1 : Int32} {b : Nat} (hb : b ≤ 1) {uC uM : zz_St} {P : Int32 → zz_St → Prop} (h : EQ A uC uM) (hP : ∀ r s, (∀ post : Int32 → zz_St → Prop, (∀ s' A', EQ A' s s' → post r s') → wp_M_black a0 a1 (nI b) uM post) → P r s) : wp_X_black a0 a1 (nI b) uC P := by
  obtain ⟨⟨⟨hG, hW, hK, hV, hT⟩, hf, hst, hmn⟩, hRM, hva⟩ := id h
  obtain ⟨⟨mG, mW, mK, mV, mT⟩, mf, mst, mmn⟩ := id hRM
  have w2 := hG.1.2.1
  have w4 := hG.1.2.2.2.1
  refine sp_X_black hb hG.1 (fun x y hx hy ex ey hne f2 f3 f4 f6 f7 hP' hth => hP _ _ (fun post hp => ?_)) (fun hz => hP _ _ (fun post hp => ?_))
  · refine sp_M_black hb mG.1 (fun x' y' hx' hy' ex' ey' _ m6 m7 m8 m9 hM => ?_) (fun z => absurd ⟨x, y, hx, hy, ex, ey, hne⟩ z)
    have e1 : x' = x := nI_inj (by omega) (by omega) (ex'.symm.trans ex)
    have e2 : y' = y := nI_inj (by omega) (by omega) (ey'.symm.trans ey)
    subst e1 e2
    have gC := rG_black (c := x' + A.W * y') (b := b) hG.1 hb
    have gM := rG_black (c := x' + A.W * y') (b := b) mG.1 hb
    have h24 : (slS A.W A.H (blU A.bl (x' + A.W * y') b)).length ≤ 24 := slS_len w2 w4
    refine hp _ (mkA A.W A.H (blU A.bl (x' + A.W * y') b) A.n A.len A.lt A.sc A.cn A.cl (fun _ => 0) (fun _ => none) none A.st A.mn) ⟨⟨⟨?_, ?_, ?_, ?_, ?_⟩, ⟨fun _ => ?_, fun F hF => ?_⟩, by unfold stS; simp (decide := true) only [sx_il, sx_ia, sx_ib, sy_i, sz_i, sx_li, sx_la, sx_lb, sy_l, sz_l, sx_ai, sx_al, sx_ab, sy_a, sz_a, sx_bi, sx_bl, sx_ba, sy_b, sz_b]; exact hst, by unfold stS; simp (decide := true) only [sx_il, sx_ia, sx_ib, sy_i, sz_i, sx_li, sx_la, sx_lb, sy_l, sz_l, sx_ai, sx_al, sx_ab, sy_a, sz_a, sx_bi, sx_bl, sx_ba, sy_b, sz_b]; exact hmn⟩, ⟨⟨?_, ?_, ?_, ?_, ?_⟩, ⟨fun _ => ?_, fun F hF => ?_⟩, by unfold stM; simp (decide := true) only [sx_il, sx_ia, sx_ib, sy_i, sz_i, sx_li, sx_la, sx_lb, sy_l, sz_l, sx_ai, sx_al, sx_ab, sy_a, sz_a, sx_bi, sx_bl, sx_ba, sy_b, sz_b]; exact mst, by unfold stM; simp (decide := true) only [sx_il, sx_ia, sx_ib, sy_i, sz_i, sx_li, sx_la, sx_lb, sy_l, sz_l, sx_ai, sx_al, sx_ab, sy_a, sz_a, sx_bi, sx_bl, sx_ba, sy_b, sz_b]; exact mmn⟩, ⟨fun _ _ _ _ z => ?_, fun F hF => ?_, hva.2.2⟩⟩
    · unfold cG stS; simp (decide := true) only [sx_il, sx_ia, sx_ib, sy_i, sz_i, sx_li, sx_la, sx_lb, sy_l, sz_l, sx_ai, sx_al, sx_ab, sy_a, sz_a, sx_bi, sx_bl, sx_ba, sy_b, sz_b]; exact ⟨gC, hG.2.1, rfl, hP', hth⟩
    · unfold cW stS; simp (decide := true) only [sx_il, sx_ia, sx_ib, sy_i, sz_i, sx_li, sx_la, sx_lb, sy_l, sz_l, sx_ai, sx_al, sx_ab, sy_a, sz_a, sx_bi, sx_bl, sx_ba, sy_b, sz_b]; exact hW
    · unfold cK stS; simp (decide := true) only [sx_il, sx_ia, sx_ib, sy_i, sz_i, sx_li, sx_la, sx_lb, sy_l, sz_l, sx_ai, sx_al, sx_ab, sy_a, sz_a, sx_bi, sx_bl, sx_ba, sy_b, sz_b]; exact hK
    · unfold cV stS; simp (decide := true) only [sx_il, sx_ia, sx_ib, sy_i, sz_i, sx_li, sx_la, sx_lb, sy_l, sz_l, sx_ai, sx_al, sx_ab, sy_a, sz_a, sx_bi, sx_bl, sx_ba, sy_b, sz_b]; exact rV_0
    · unfold cT stS; simp (decide := true) only [sx_il, sx_ia, sx_ib, sy_i, sz_i, sx_li, sx_la, sx_lb, sy_l, sz_l, sx_ai, sx_al, sx_ab, sy_a, sz_a, sx_bi, sx_bl, sx_ba, sy_b, sz_b]; exact fun k hk => flI_in (Nat.lt_of_lt_of_le hk h24)
    · unfold stS; simp (decide := true) only [sx_il, sx_ia, sx_ib, sy_i, sz_i, sx_li, sx_la, sx_lb, sy_l, sz_l, sx_ai, sx_al, sx_ab, sy_a, sz_a, sx_bi, sx_bl, sx_ba, sy_b, sz_b]
    · cases hF
    · unfold stM; simp (decide := true) only [sx_il, sx_ia, sx_ib, sy_i, sz_i, sx_li, sx_la, sx_lb, sy_l, sz_l, sx_ai, sx_al, sx_ab, sy_a, sz_a, sx_bi, sx_bl, sx_ba, sy_b, sz_b]; exact ⟨gM, rfl, rfl, fun k e hk => ⟨(hM k e hk).1, (hM k e hk).2.1, (hM k e hk).2.2.1⟩⟩
    · unfold stM; simp (decide := true) only [sx_il, sx_ia, sx_ib, sy_i, sz_i, sx_li, sx_la, sx_lb, sy_l, sz_l, sx_ai, sx_al, sx_ab, sy_a, sz_a, sx_bi, sx_bl, sx_ba, sy_b, sz_b]; exact mW
    · unfold stM; simp (decide := true) only [sx_il, sx_ia, sx_ib, sy_i, sz_i, sx_li, sx_la, sx_lb, sy_l, sz_l, sx_ai, sx_al, sx_ab, sy_a, sz_a, sx_bi, sx_bl, sx_ba, sy_b, sz_b]; exact mK
    · unfold stM; simp (decide := true) only [sx_il, sx_ia, sx_ib, sy_i, sz_i, sx_li, sx_la, sx_lb, sy_l, sz_l, sx_ai, sx_al, sx_ab, sy_a, sz_a, sx_bi, sx_bl, sx_ba, sy_b, sz_b]; exact rV_0
    · unfold stM; simp (decide := true) only [sx_il, sx_ia, sx_ib, sy_i, sz_i, sx_li, sx_la, sx_lb, sy_l, sz_l, sx_ai, sx_al, sx_ab, sy_a, sz_a, sx_bi, sx_bl, sx_ba, sy_b, sz_b]
      intro k hk
      exact (hM k _ (List.getElem?_eq_getElem hk)).2.2.2
    · unfold stM; simp (decide := true) only [sx_il, sx_ia, sx_ib, sy_i, sz_i, sx_li, sx_la, sx_lb, sy_l, sz_l, sx_ai, sx_al, sx_ab, sy_a, sz_a, sx_bi, sx_bl, sx_ba, sy_b, sz_b]
    · cases hF
    · cases z
    · cases hF
  · exact sp_M_black hb mG.1 (fun x y hx hy ex ey hne => absurd ⟨x, y, hx, hy, ex, ey, hne⟩ hz) (fun _ => hp _ A ⟨h.1, RM_i0 hRM, hva⟩)
theorem bo_alike {A : AS} {a0 : Int32} {uC uM : zz_St} {P : Int32 → zz_St → Prop} (h : EQ A uC uM) (hP : ∀ r s, (∀ post : Int32 → zz_St → Prop, (∀ s' A', EQ A' s s' → post r s') → wp_M_alike a0 uM post) → P r s) : wp_X_alike a0 uC P :=
  sp_X_alike h.1.1.1.1 (fun z => hP _ _ (fun post hp => sp_M_alike h.2.1.1.1.1 (fun _ => hp _ A ⟨h.1, RM_i0 h.2.1, h.2.2⟩) (fun y => absurd z y))) (fun z => hP _ _ (fun post hp => sp_M_alike h.2.1.1.1.1 (fun y => absurd y z) (fun _ => hp _ A ⟨h.1, RM_i0 h.2.1, h.2.2⟩)))
theorem bo_parts {A : AS} {uC uM : zz_St} {P : Int32 → zz_St → Prop} (h : EQ A uC uM) (hP : ∀ r s, (∀ post : Int32 → zz_St → Prop, (∀ s' A', EQ A' s s' → post r s') → wp_M_parts uM post) → P r s) : wp_X_parts uC P :=
  sp_X_parts h.1.1.1.1 h.1.1.1.2.1 (fun f => hP _ _ (fun post hp => sp_M_parts h.2.1.1.1.1 (fun g => hp _ A ⟨RC_a8 h.1, RM_a17 (RM_i0 h.2.1), h.2.2⟩)))
theorem bo_run {A : AS} {a0 : Int32} {uC uM : zz_St} {P : Int32 → zz_St → Prop} (h : EQ A uC uM) (hP : ∀ r s, (∀ post : Int32 → zz_St → Prop, (∀ s' A', EQ A' s s' → post r s') → wp_M_run a0 uM post) → P r s) : wp_X_run a0 uC P := by
  refine sp_X_run h.1 h.2.2 (fun m hm em u' hR => hP _ _ (fun post hp => ?_)) (fun z => hP _ _ (fun post hp => ?_))
  · refine sp_M_run h.2.1 h.2.2 (fun m' hm' em' v' hR' => ?_) (fun z => absurd ⟨m, hm, em⟩ z)
    have e : m' = m := nI_inj (by omega) (by omega) (em'.symm.trans em)
    subst e
    exact hp _ _ ⟨hR, hR', VA_run h.2.2 h.1.1.1.1.1 hm⟩
  · exact sp_M_run h.2.1 h.2.2 (fun m hm em => absurd ⟨m, hm, em⟩ z) (fun _ => hp _ A ⟨h.1, RM_i0 h.2.1, h.2.2⟩)
theorem bo_best {A : AS} {a0 : Int32} {uC uM : zz_St} {P : Int32 → zz_St → Prop} (h : EQ A uC uM) (hP : ∀ r s, (∀ post : Int32 → zz_St → Prop, (∀ s' A', EQ A' s s' → post r s') → wp_M_best a0 uM post) → P r s) : wp_X_best a0 uC P := by
  refine sp_X_best h.1 h.2.2 (fun m hm em u' hR => hP _ _ (fun post hp => ?_)) (fun z => hP _ _ (fun post hp => ?_))
  · refine sp_M_best h.2.1 h.2.2 (fun m' hm' em' v' hR' => ?_) (fun z => absurd ⟨m, hm, em⟩ z)
    have e : m' = m := nI_inj (by omega) (by omega) (em'.symm.trans em)
    subst e
    exact hp _ _ ⟨hR, hR', VA_run h.2.2 h.1.1.1.1.1 hm⟩
  · exact sp_M_best h.2.1 h.2.2 (fun m hm em => absurd ⟨m, hm, em⟩ z) (fun _ => hp _ A ⟨h.1, RM_i0 h.2.1, h.2.2⟩)
theorem bo_slots {A : AS} {uC uM : zz_St} {P : Int32 → zz_St → Prop} (h : EQ A uC uM) (hP : ∀ r s, (∀ post : Int32 → zz_St → Prop, (∀ s' A', EQ A' s s' → post r s') → wp_M_slots uM post) → P r s) : wp_X_slots uC P := by
  refine hP _ _ (fun post hp => ?_)
  have z := hp _ A ⟨h.1, RM_i0 (x := 0) h.2.1, h.2.2⟩
  rw [h.1.1.1.2.2.1] at z
  unfold wp_M_slots
  rw [h.2.1.1.1.2.1]
  exact z
theorem bo_steps {A : AS} {uC uM : zz_St} {P : Int32 → zz_St → Prop} (h : EQ A uC uM) (hP : ∀ r s, (∀ post : Int32 → zz_St → Prop, (∀ s' A', EQ A' s s' → post r s') → wp_M_steps uM post) → P r s) : wp_X_steps uC P := by
  refine hP _ _ (fun post hp => ?_)
  have z := hp _ A ⟨h.1, RM_i0 (x := 0) h.2.1, h.2.2⟩
  rw [h.1.2.2.1] at z
  unfold wp_M_steps
  rw [h.2.1.2.2.1]
  exact z
theorem bo_many {A : AS} {uC uM : zz_St} {P : Int32 → zz_St → Prop} (h : EQ A uC uM) (hP : ∀ r s, (∀ post : Int32 → zz_St → Prop, (∀ s' A', EQ A' s s' → post r s') → wp_M_many uM post) → P r s) : wp_X_many uC P := by
  refine hP _ _ (fun post hp => ?_)
  have z := hp _ A ⟨h.1, RM_i0 (x := 0) h.2.1, h.2.2⟩
  rw [h.1.2.2.2] at z
  unfold wp_M_many
  rw [h.2.1.2.2.2]
  exact z
