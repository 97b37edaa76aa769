theorem sp_M_isBefore {A : AS} {a b : Nat} {u : zz_St} {post : Int32 → zz_St → Prop} (hB : MB A u) (ha : a < A.n) (hab : b < a) (h1 : A.sc b < A.sc a → post 1 u) (h0 : ¬ A.sc b < A.sc a → post 0 u) : wp_M_isBefore (nI a) (nI b) u post := by
  obtain ⟨n80, e4, hwd⟩ := id hB.2.1
  obtain ⟨-, -, sa, -, ea, -⟩ := hwd a ha
  obtain ⟨-, -, sb, -, eb, -⟩ := hwd b (by omega)
  unfold wp_M_isBefore
  rw [nI_clamp (n := a) (by omega), nI_clamp (n := b) (by omega), ea, eb]
  exact ⟨vin (by omega), vin (by omega), pk_eq (A.sc a) (A.sc b) (fun q => pk_le b a (fun _ => h0 (by omega)) (fun z => absurd z (by omega))) (fun q => ⟨vin (by omega), vin (by omega), pk_le (A.sc a) (A.sc b) (fun z => h0 (by omega)) (fun z => h1 z)⟩)⟩
def hasL (g : Nat → Int32) (b : Nat) (l : List Nat) : Prop := ∀ (i a : Nat), l[i]? = some a → g (b + i) = nI a
theorem nI_dec (j : Nat) : nI (j + 1) + (-1) = nI j := by rw [nI_succ, Int32.add_assoc, show (1 : Int32) + -1 = 0 by decide, Int32.add_zero]
theorem open_ins {A : AS} {u : zz_St} {post : Int32 → zz_St → Prop} {kn91 : Int32 → Int32 → Int32 → Int32 → zz_St → Prop} {lv w : Nat} {x2 : Int32} {l : List Nat} {g0 : Nat → Int32} (hB : MB A u) (hlv : lv < 37) (hl : ∀ a, a ∈ l → a < w) (hw : w < A.n) (hd : dsc A.sc l) (hlen : l.length < 80) (hg : hasL g0 (80 * lv) l)
    (h : ∀ g', hasL g' (80 * lv) (insW A.sc w l) → (∀ i, i < 80 * lv → g' i = g0 i) → wp_M_open_194 post kn91 (nI lv) x2 (nI (l.length + 1)) (nI w) (ss_a u 16 g')) : wp_M_open_117_f post kn91 (l.length + 1) (nI lv) x2 (nI l.length) (nI w) (nI l.length) (ss_a u 16 g0) := by
  have fin : ∀ j g, j ≤ l.length → (∀ i a : Nat, i < j → l[i]? = some a → g (80 * lv + i) = nI a) → (∀ i a : Nat, j ≤ i → l[i]? = some a → g (80 * lv + (i + 1)) = nI a ∧ A.sc a < A.sc w) → (∀ i a : Nat, i < j → l[i]? = some a → ¬ A.sc a < A.sc w) → (∀ i, i < 80 * lv → g i = g0 i) → wp_M_open_177 post kn91 (nI lv) x2 (nI l.length) (nI w) (nI j) (ss_a u 16 g) := by
    intro j g hj h1 h2 h3 h4
    have ei : 80 * nI lv + nI j = nI (80 * lv + j) := by rw [show (80 : Int32) = nI 80 from rfl, pk_mul, nI_add]
    unfold wp_M_open_177
    simp (decide := true) only [sx_il, sx_ia, sx_ib, sy_i, sz_i, sx_li, sx_la, sx_lb, sy_l, sz_l, sx_ai, sx_al, sx_ab, sy_a, sz_a, sx_bi, sx_bl, sx_ba, sy_b, sz_b]
    rw [ei, nI_clamp (n := 80 * lv + j) (by omega), so_a, nI_1]
    refine ⟨vin (by omega), h _ (fun r a hr => ?_) (fun i hi => ?_)⟩
    · rw [insW_at (j := j) (by omega) h3 (fun a q => (h2 j a (Nat.le_refl j) q).2), take_drop_get (by omega)] at hr
      unfold upd
      by_cases q : r < j
      · rw [if_pos q] at hr
        rw [if_neg (by omega)]
        exact h1 r a q hr
      · rw [if_neg q] at hr
        by_cases q2 : r = j
        · rw [if_pos q2] at hr
          rw [if_pos (by omega)]
          cases hr
          rfl
        · rw [if_neg q2] at hr
          rw [if_neg (by omega)]
          have := (h2 (r - 1) a (by omega) hr).1
          rw [show r - 1 + 1 = r by omega] at this
          exact this
    · rw [pk_un (by omega)]
      exact h4 i hi
  suffices ∀ j g, j ≤ l.length → (∀ i a : Nat, i < j → l[i]? = some a → g (80 * lv + i) = nI a) → (∀ i a : Nat, j ≤ i → l[i]? = some a → g (80 * lv + (i + 1)) = nI a ∧ A.sc a < A.sc w) → (∀ i, i < 80 * lv → g i = g0 i) → wp_M_open_117_f post kn91 (j + 1) (nI lv) x2 (nI l.length) (nI w) (nI j) (ss_a u 16 g) from
    this l.length g0 (Nat.le_refl _) (fun i a _ q => hg i a q) (fun i a q1 q2 => by
      have := (List.getElem?_eq_some_iff.mp q2).1
      omega) (fun _ _ => rfl)
  intro j
  induction j with
  | zero =>
    intro g hj h1 h2 h4
    show wp_M_open_117 post _ _ _ _ _ _ _ _
    unfold wp_M_open_117
    exact pk_le 0 0 (fun _ => fin 0 g hj h1 h2 (fun i a q => absurd q (Nat.not_lt_zero i)) h4) (fun q => absurd q (by omega))
  | succ j ih =>
    intro g hj h1 h2 h4
    obtain ⟨a, ha⟩ : ∃ a, l[j]? = some a := ⟨_, List.getElem?_eq_getElem (by omega)⟩
    have hal := hl a (List.mem_of_getElem? ha)
    have eA : g (80 * lv + j) = nI a := h1 j a (by omega) ha
    have ei : 80 * nI lv + nI (j + 1) = nI (80 * lv + j + 1) := by rw [show (80 : Int32) = nI 80 from rfl, pk_mul, nI_add]; rfl
    have ej : nI (80 * lv + j + 1) - 1 = nI (80 * lv + j) := nI_pred _
    show wp_M_open_117 post _ _ _ _ _ _ _ _
    unfold wp_M_open_117
    simp (decide := true) only [sx_il, sx_ia, sx_ib, sy_i, sz_i, sx_li, sx_la, sx_lb, sy_l, sz_l, sx_ai, sx_al, sx_ab, sy_a, sz_a, sx_bi, sx_bl, sx_ba, sy_b, sz_b]
    rw [ei, ej, nI_clamp (n := 80 * lv + j) (by omega), nI_clamp (n := 80 * lv + j + 1) (by omega), eA, nI_dec]
    refine pk_le (j + 1) 0 (fun z => absurd z (by omega)) (fun _ => ⟨vin (by omega), ?_⟩)
    refine sp_M_isBefore (A := A) (MB_a16 hB) hw hal (fun hc => ⟨fun z => absurd z (by decide), fun _ => ?_⟩) (fun hc => ⟨fun _ => ?_, fun z => absurd rfl z⟩)
    · simp (decide := true) only [sx_il, sx_ia, sx_ib, sy_i, sz_i, sx_li, sx_la, sx_lb, sy_l, sz_l, sx_ai, sx_al, sx_ab, sy_a, sz_a, sx_bi, sx_bl, sx_ba, sy_b, sz_b]
      rw [eA]
      refine ⟨vin (by omega), fun v ev => ⟨vin (by omega), ?_⟩⟩
      subst ev
      rw [so_a]
      refine ih _ (by omega) (fun i b hi hb => ?_) (fun i b hi hb => ?_) (fun i hi => ?_)
      · unfold upd
        rw [if_neg (by omega)]
        exact h1 i b (by omega) hb
      · unfold upd
        by_cases q : i = j
        · subst q
          rw [ha] at hb
          cases hb
          rw [if_pos (by omega)]
          exact ⟨rfl, hc⟩
        · rw [if_neg (by omega)]
          exact h2 i b (by omega) hb
      · unfold upd
        rw [if_neg (by omega)]
        exact h4 i hi
    · exact fin (j + 1) g hj h1 h2 (fun i b hi hb z => hc (Nat.lt_of_le_of_lt (dsc_get hd (show i ≤ j by omega) hb ha) z)) h4
theorem sp_M_open {A : AS} {asg : Nat → Option Nat} {lv : Nat} {u : zz_St} {post : Int32 → zz_St → Prop} (hB : MB A u) (hVA : VA A) (hn : nowR A asg u) (hcs : cons A asg) (hlv : lv < 37)
    (h0 : (pkS A asg A.S.length).2 = none → ∀ f, post 0 (ss_a u 12 f))
    (h1 : ∀ k, (pkS A asg A.S.length).2 = some k → ∀ f g, (∀ i, i < 80 * lv → g i = sg_a u 16 i) → hasL g (80 * lv) (cL A asg k) → post 1 (ss_a (ss_a (ss_a (ss_a (ss_a u 12 f) 13 (upd (sg_a u 13) lv (nI k))) 15 (upd (sg_a u 15) lv 0)) 16 g) 14 (upd (sg_a u 14) lv (nI (cL A asg k).length)))) : wp_M_open (nI lv) u post := by
  have h24 := S_len hB.1.1
  have e5 := hB.1.2.1
  obtain ⟨n80, e4, -⟩ := id hB.2.1
  unfold wp_M_open
  refine sp_M_spell hB hn hcs (fun f hf => ⟨A.S.length + 1, ?_⟩)
  have pick : ∀ k, (pkS A asg A.S.length).2 = some k → wp_M_open_91_f post (A.n + 1) (nI lv) (nI k) 0 0 (ss_a (ss_a (ss_a u 12 f) 13 (upd (sg_a u 13) lv (nI k))) 15 (upd (sg_a u 15) lv 0)) := by
    intro k hk
    obtain ⟨k1, k2, k3⟩ := pkS_some hk
    replace h1 := h1 k hk f
    have hB' : MB A (ss_a (ss_a (ss_a u 12 f) 13 (upd (sg_a u 13) lv (nI k))) 15 (upd (sg_a u 15) lv 0)) := MB_a15 (MB_a13 (MB_a12 hB))
    have hn' : nowR A asg (ss_a (ss_a (ss_a u 12 f) 13 (upd (sg_a u 13) lv (nI k))) 15 (upd (sg_a u 15) lv 0)) := by unfold nowR; simp (decide := true) only [sx_il, sx_ia, sx_ib, sy_i, sz_i, sx_li, sx_la, sx_lb, sy_l, sz_l, sx_ai, sx_al, sx_ab, sy_a, sz_a, sx_bi, sx_bl, sx_ba, sy_b, sz_b]; exact hn
    have hf' : sg_a (ss_a (ss_a (ss_a u 12 f) 13 (upd (sg_a u 13) lv (nI k))) 15 (upd (sg_a u 15) lv 0)) 12 = f := by simp (decide := true) only [sx_il, sx_ia, sx_ib, sy_i, sz_i, sx_li, sx_la, sx_lb, sy_l, sz_l, sx_ai, sx_al, sx_ab, sy_a, sz_a, sx_bi, sx_bl, sx_ba, sy_b, sz_b]
    have h14 : sg_a (ss_a (ss_a (ss_a u 12 f) 13 (upd (sg_a u 13) lv (nI k))) 15 (upd (sg_a u 15) lv 0)) 14 = sg_a u 14 := by simp (decide := true) only [sx_il, sx_ia, sx_ib, sy_i, sz_i, sx_li, sx_la, sx_lb, sy_l, sz_l, sx_ai, sx_al, sx_ab, sy_a, sz_a, sx_bi, sx_bl, sx_ba, sy_b, sz_b]
    have h16 : sg_a (ss_a (ss_a (ss_a u 12 f) 13 (upd (sg_a u 13) lv (nI k))) 15 (upd (sg_a u 15) lv 0)) 16 = sg_a u 16 := by simp (decide := true) only [sx_il, sx_ia, sx_ib, sy_i, sz_i, sx_li, sx_la, sx_lb, sy_l, sz_l, sx_ai, sx_al, sx_ab, sy_a, sz_a, sx_bi, sx_bl, sx_ba, sy_b, sz_b]
    have e4' := hB'.2.1.2.1
    generalize ss_a (ss_a (ss_a u 12 f) 13 (upd (sg_a u 13) lv (nI k))) 15 (upd (sg_a u 15) lv 0) = v at *
    suffices ∀ t w g, w + t = A.n → (∀ i, i < 80 * lv → g i = sg_a u 16 i) → hasL g (80 * lv) ((ordW A.sc w).filter (fun w => pB (fitA A asg k w ∧ ¬ usedA A asg w))) → wp_M_open_91_f post (t + 1) (nI lv) (nI k) (nI ((ordW A.sc w).filter (fun w => pB (fitA A asg k w ∧ ¬ usedA A asg w))).length) (nI w) (ss_a v 16 g) by
      have z := this A.n 0 (sg_a v 16) (Nat.zero_add _) (fun i _ => by rw [h16]) (fun i a z => by cases z)
      rw [ss_a_id] at z
      exact z
    intro t
    induction t with
    | zero =>
      intro w g hw hg hL
      show wp_M_open_91 post _ _ _ _ _ _
      unfold wp_M_open_91
      simp (decide := true) only [sx_il, sx_ia, sx_ib, sy_i, sz_i, sx_li, sx_la, sx_lb, sy_l, sz_l, sx_ai, sx_al, sx_ab, sy_a, sz_a, sx_bi, sx_bl, sx_ba, sy_b, sz_b]
      rw [e4', nI_clamp (n := lv) (by omega), h14]
      have e : w = A.n := by omega
      subst e
      exact pk_le A.n A.n (fun _ => ⟨vin (by omega), h1 g hg hL⟩) (fun z => absurd z (by omega))
    | succ t ih =>
      intro w g hw hg hL
      show wp_M_open_91 post _ _ _ _ _ _
      unfold wp_M_open_91
      simp (decide := true) only [sx_il, sx_ia, sx_ib, sy_i, sz_i, sx_li, sx_la, sx_lb, sy_l, sz_l, sx_ai, sx_al, sx_ab, sy_a, sz_a, sx_bi, sx_bl, sx_ba, sy_b, sz_b]
      rw [e4']
      refine pk_le A.n w (fun z => absurd z (by omega)) (fun _ => ?_)
      have eo : ordW A.sc (w + 1) = insW A.sc w (ordW A.sc w) := rfl
      have fl := insW_filter (w := w) (p := fun w => pB (fitA A asg k w ∧ ¬ usedA A asg w)) (ordW_dsc (sc := A.sc) (n := w))
      refine sp_M_mayHave (A := A) (asg := asg) (MB_a16 hB') hVA (by unfold nowR; simp (decide := true) only [sx_il, sx_ia, sx_ib, sy_i, sz_i, sx_li, sx_la, sx_lb, sy_l, sz_l, sx_ai, sx_al, sx_ab, sy_a, sz_a, sx_bi, sx_bl, sx_ba, sy_b, sz_b]; exact hn') hcs (by simp (decide := true) only [sx_il, sx_ia, sx_ib, sy_i, sz_i, sx_li, sx_la, sx_lb, sy_l, sz_l, sx_ai, sx_al, sx_ab, sy_a, sz_a, sx_bi, sx_bl, sx_ba, sy_b, sz_b]; rw [hf']; exact hf) k1 (by omega) (fun q => ⟨fun z => absurd z (by decide), fun _ => ⟨((ordW A.sc w).filter (fun w => pB (fitA A asg k w ∧ ¬ usedA A asg w))).length + 1, ?_⟩⟩) (fun q => ⟨fun _ => ?_, fun z => absurd rfl z⟩)
      · rw [if_pos (pB_iff.mpr q)] at fl
        have hmem : ∀ a, a ∈ (ordW A.sc w).filter (fun w => pB (fitA A asg k w ∧ ¬ usedA A asg w)) → a < w := fun a z => ordW_mem.mp (List.mem_filter.mp z).1
        have hle := List.length_filter_le (fun w => pB (fitA A asg k w ∧ ¬ usedA A asg w)) (ordW A.sc w)
        rw [ordW_len] at hle
        refine open_ins (A := A) hB' hlv hmem (by omega) (List.Pairwise.filter _ ordW_dsc) (by omega) hL (fun g' hg' hfr => ?_)
        unfold wp_M_open_194
        rw [nI_1]
        have z := ih (w + 1) g' (by omega) (fun i hi => (hfr i hi).trans (hg i hi)) (by rw [eo, fl]; exact hg')
        rw [eo, fl, insW_len] at z
        exact z
      · rw [if_neg (fun y => q (pB_iff.mp y))] at fl
        unfold wp_M_open_194
        rw [nI_1]
        have z := ih (w + 1) g (by omega) hg (by rw [eo, fl]; exact hL)
        rw [eo, fl] at z
        exact z
  suffices ∀ t j, j + t = A.S.length → wp_M_open_12_f post (t + 1) (nI lv) (oI (pkS A asg j).2) (nI (pkS A asg j).1) (nI j) (ss_a u 12 f) from this A.S.length 0 (Nat.zero_add _)
  intro t
  induction t with
  | zero =>
    intro j hj
    show wp_M_open_12 post _ _ _ _ _ _
    unfold wp_M_open_12
    simp (decide := true) only [sx_il, sx_ia, sx_ib, sy_i, sz_i, sx_li, sx_la, sx_lb, sy_l, sz_l, sx_ai, sx_al, sx_ab, sy_a, sz_a, sx_bi, sx_bl, sx_ba, sy_b, sz_b]
    rw [e5]
    have e : j = A.S.length := by omega
    subst e
    refine pk_le A.S.length A.S.length (fun _ => ?_) (fun z => absurd z (by omega))
    cases hk : (pkS A asg A.S.length).2 with
    | none => exact ⟨fun _ => h0 hk f, fun z => absurd rfl z⟩
    | some k =>
      have k1 := (pkS_some hk).1
      rw [oI_some, nI_clamp (n := lv) (by omega)]
      exact ⟨fun z => absurd z (nI_nm1 (by omega)), fun _ => ⟨vin (by omega), vin (by omega), A.n + 1, pick k hk⟩⟩
  | succ t ih =>
    intro j hj
    show wp_M_open_12 post _ _ _ _ _ _
    unfold wp_M_open_12
    simp (decide := true) only [sx_il, sx_ia, sx_ib, sy_i, sz_i, sx_li, sx_la, sx_lb, sy_l, sz_l, sx_ai, sx_al, sx_ab, sy_a, sz_a, sx_bi, sx_bl, sx_ba, sy_b, sz_b]
    rw [e5, nI_clamp (n := j) (by omega), hn j (by omega)]
    refine pk_le A.S.length j (fun z => absurd z (by omega)) (fun _ => ⟨vin (by omega), ?_⟩)
    have z := ih (j + 1) (by omega)
    have hcl := cL_len (A := A) (asg := asg) (k := j)
    have hp81 : (pkS A asg j).1 < 2 ^ 31 := by
      cases hk : (pkS A asg j).2 with
      | none => rw [(pkS_none n80 hk).1]; decide
      | some k => rw [(pkS_some hk).2.2]; have := cL_len (A := A) (asg := asg) (k := k); omega
    cases ha : asg j with
    | none =>
      refine ⟨fun _ => ?_, fun z => absurd rfl z⟩
      refine sp_M_countFor (A := A) (asg := asg) (MB_a12 hB) hVA (by unfold nowR; simp (decide := true) only [sx_il, sx_ia, sx_ib, sy_i, sz_i, sx_li, sx_la, sx_lb, sy_l, sz_l, sx_ai, sx_al, sx_ab, sy_a, sz_a, sx_bi, sx_bl, sx_ba, sy_b, sz_b]; exact hn) hcs (by simp (decide := true) only [sx_il, sx_ia, sx_ib, sy_i, sz_i, sx_li, sx_la, sx_lb, sy_l, sz_l, sx_ai, sx_al, sx_ab, sy_a, sz_a, sx_bi, sx_bl, sx_ba, sy_b, sz_b]; exact hf) (by omega) ?_
      refine pk_lt (cL A asg j).length (pkS A asg j).1 (fun c => ?_) (fun c => ?_) rfl rfl (by omega) hp81
      · unfold wp_M_open_58
        rw [nI_1]
        rw [pkS, if_pos ⟨ha, c⟩] at z
        exact z
      · unfold wp_M_open_58
        rw [nI_1]
        rw [pkS, if_neg (fun y => by omega)] at z
        exact z
    | some w =>
      obtain ⟨e, he⟩ := S_get (A := A) (k := j) (by omega)
      have hwn := (hcs j e w he ha).1
      refine ⟨fun z => absurd z (nI_nm1 (by omega)), fun _ => ?_⟩
      unfold wp_M_open_58
      rw [nI_1]
      rw [pkS, if_neg (fun y => by rw [ha] at y; cases y.1)] at z
      exact z
