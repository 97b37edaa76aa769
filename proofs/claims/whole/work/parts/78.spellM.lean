theorem sp_M_cellOf {A : AS} {u : zz_St} {post : Int32 → zz_St → Prop} {k p : Nat} {e : Nat × Nat × Nat} (hB : MB A u) (hk : A.S[k]? = some e) (h : post (nI (celp A.W e p)) u) : wp_M_cellOf (nI k) (nI p) u post := by
  have h24 := S_len hB.1.1
  obtain ⟨k1, -⟩ := S_e hB.1.1 hk
  obtain ⟨e6, e7, e8⟩ := hB.1.2.2.2 k e hk
  unfold wp_M_cellOf
  rw [nI_clamp (n := k) (by omega), e6, e8, pk_mul, nI_add]
  exact ⟨vin (by omega), vin (by omega), h⟩
theorem sp_M_clearNow {u : zz_St} {post : zz_St → Prop} (h : post (ss_a u 10 (flI (-1) 36 (sg_a u 10)))) : wp_M_clearNow u post := by
  unfold wp_M_clearNow
  refine ⟨37, ?_⟩
  suffices ∀ t c, c + t = 36 → wp_M_clearNow_2_f post (t + 1) (nI c) (ss_a u 10 (flI (-1) c (sg_a u 10))) by
    have z := this 36 0 rfl
    rw [flI_0, ss_a_id] at z
    exact z
  intro t
  induction t with
  | zero =>
    intro c hc
    show wp_M_clearNow_2 post _ _ _
    unfold wp_M_clearNow_2
    have e : c = 36 := by omega
    subst e
    exact ⟨fun _ => h, fun z => absurd (Int32.le_refl _) z⟩
  | succ t ih =>
    intro c hc
    show wp_M_clearNow_2 post _ _ _
    unfold wp_M_clearNow_2
    simp (decide := true) only [sx_il, sx_ia, sx_ib, sy_i, sz_i, sx_li, sx_la, sx_lb, sy_l, sz_l, sx_ai, sx_al, sx_ab, sy_a, sz_a, sx_bi, sx_bl, sx_ba, sy_b, sz_b]
    rw [nI_clamp (n := c) (by omega), so_a, flI_s, nI_1]
    exact pk_le 36 c (fun z => absurd z (by omega)) (fun _ => ⟨vin (by omega), ih (c + 1) (by omega)⟩)
def cov (A : AS) (asg : Nat → Option Nat) (j i c w p : Nat) : Prop := ∃ (k : Nat) (e : Nat × Nat × Nat), A.S[k]? = some e ∧ asg k = some w ∧ p < e.2.1 ∧ celp A.W e p = c ∧ (k < j ∨ k = j ∧ p < i)
def shA (A : AS) (asg : Nat → Option Nat) (j i : Nat) (f : Nat → Int32) : Prop := ∀ c, c < 36 → (∀ w p, cov A asg j i c w p → f c = nI (A.lt w p)) ∧ ((∀ w p, ¬ cov A asg j i c w p) → f c = nI (A.gv c))
theorem shA_cg {A : AS} {asg : Nat → Option Nat} {j i j' i' : Nat} {f : Nat → Int32} (h : shA A asg j i f) (hc : ∀ c w p, cov A asg j i c w p ↔ cov A asg j' i' c w p) : shA A asg j' i' f := fun c hc36 => ⟨fun w p z => (h c hc36).1 w p ((hc c w p).mpr z), fun z => (h c hc36).2 (fun w p y => z w p ((hc c w p).mp y))⟩
theorem shA_up {A : AS} {asg : Nat → Option Nat} {j i w : Nat} {e : Nat × Nat × Nat} {f : Nat → Int32} (hcs : cons A asg) (hk : A.S[j]? = some e) (ha : asg j = some w) (hi : i < e.2.1) (h : shA A asg j i f) : shA A asg j (i + 1) (upd f (celp A.W e i) (nI (A.lt w i))) := by
  intro c hc
  by_cases q : c = celp A.W e i
  · subst q
    rw [pk_us]
    refine ⟨fun w' p' z => ?_, fun z => absurd ⟨j, e, hk, ha, hi, rfl, Or.inr ⟨rfl, Nat.lt_succ_self i⟩⟩ (z w i)⟩
    obtain ⟨k', e', z1, z2, z3, z4, -⟩ := z
    rw [(hcs j e w hk ha).2.2 k' e' w' z1 z2 i p' hi z3 z4.symm]
  · rw [pk_un q]
    have key : ∀ w' p', cov A asg j (i + 1) c w' p' ↔ cov A asg j i c w' p' := by
      intro w' p'
      constructor
      · rintro ⟨k', e', z1, z2, z3, z4, z5⟩
        refine ⟨k', e', z1, z2, z3, z4, ?_⟩
        rcases z5 with z5 | ⟨rfl, z5⟩
        · exact Or.inl z5
        · refine Or.inr ⟨rfl, ?_⟩
          rcases Nat.lt_or_ge p' i with y | y
          · exact y
          · have : p' = i := by omega
            subst this
            rw [hk] at z1
            cases z1
            exact absurd z4.symm q
      · rintro ⟨k', e', z1, z2, z3, z4, z5⟩
        exact ⟨k', e', z1, z2, z3, z4, z5.imp id (fun y => ⟨y.1, by omega⟩)⟩
    exact ⟨fun w' p' z => (h c hc).1 w' p' ((key w' p').mp z), fun z => (h c hc).2 (fun w' p' y => z w' p' ((key w' p').mpr y))⟩
def nowR (A : AS) (asg : Nat → Option Nat) (u : zz_St) : Prop := ∀ k, k < A.S.length → sg_a u 10 k = oI (asg k)
theorem sp_M_spell {A : AS} {asg : Nat → Option Nat} {u : zz_St} {post : zz_St → Prop} (hB : MB A u) (hn : nowR A asg u) (hcs : cons A asg) (h : ∀ f, shA A asg A.S.length 0 f → post (ss_a u 12 f)) : wp_M_spell u post := by
  have h24 := S_len hB.1.1
  obtain ⟨⟨hG, e5, e6, hP⟩, ⟨n80, e4, hwd⟩, hK, hV, hT⟩ := id hB
  have slots : ∀ t j f, j + t = A.S.length → shA A asg j 0 f → wp_M_spell_28_f post (t + 1) (nI j) (ss_a u 12 f) := by
    intro t
    induction t with
    | zero =>
      intro j f hj hs
      show wp_M_spell_28 post _ _ _
      unfold wp_M_spell_28
      simp (decide := true) only [sx_il, sx_ia, sx_ib, sy_i, sz_i, sx_li, sx_la, sx_lb, sy_l, sz_l, sx_ai, sx_al, sx_ab, sy_a, sz_a, sx_bi, sx_bl, sx_ba, sy_b, sz_b]
      rw [e5]
      have e : j = A.S.length := by omega
      subst e
      exact pk_le A.S.length A.S.length (fun _ => h f hs) (fun z => absurd z (by omega))
    | succ t ih =>
      intro j f hj hs
      show wp_M_spell_28 post _ _ _
      unfold wp_M_spell_28
      simp (decide := true) only [sx_il, sx_ia, sx_ib, sy_i, sz_i, sx_li, sx_la, sx_lb, sy_l, sz_l, sx_ai, sx_al, sx_ab, sy_a, sz_a, sx_bi, sx_bl, sx_ba, sy_b, sz_b]
      obtain ⟨e, he⟩ := S_get (A := A) (k := j) (by omega)
      obtain ⟨-, l2, l6, -, hcl⟩ := S_e hG he
      obtain ⟨-, p7, -⟩ := hP j e he
      have hnj := hn j (by omega)
      rw [e5, nI_clamp (n := j) (by omega), hnj]
      refine pk_le A.S.length j (fun z => absurd z (by omega)) (fun _ => ⟨vin (by omega), ?_⟩)
      cases ha : asg j with
      | none =>
        refine ⟨fun _ => ?_, fun z => absurd rfl z⟩
        unfold wp_M_spell_94
        rw [nI_1]
        refine ih (j + 1) f (by omega) (shA_cg hs (fun c w p => ?_))
        constructor
        · rintro ⟨k', e', z1, z2, z3, z4, z5⟩
          exact ⟨k', e', z1, z2, z3, z4, Or.inl (by omega)⟩
        · rintro ⟨k', e', z1, z2, z3, z4, z5⟩
          refine ⟨k', e', z1, z2, z3, z4, ?_⟩
          rcases Nat.lt_or_ge k' j with y | y
          · exact Or.inl y
          · have : k' = j := by omega
            subst this
            rw [ha] at z2; cases z2
      | some w =>
        obtain ⟨hwn, hfg, hx⟩ := hcs j e w he ha
        obtain ⟨-, -, -, -, -, elt⟩ := hwd w hwn
        refine ⟨fun z => absurd z (nI_nm1 (by omega)), fun _ => ⟨e.2.1 + 1, ?_⟩⟩
        suffices ∀ r i g, i + r = e.2.1 → shA A asg j i g → wp_M_spell_51_f post (wp_M_spell_28_f post (t + 1)) (r + 1) (nI j) (nI i) (ss_a u 12 g) from this e.2.1 0 f (Nat.zero_add _) hs
        intro r
        induction r with
        | zero =>
          intro i g hi hs'
          show wp_M_spell_51 post _ _ _ _ _
          unfold wp_M_spell_51
          simp (decide := true) only [sx_il, sx_ia, sx_ib, sy_i, sz_i, sx_li, sx_la, sx_lb, sy_l, sz_l, sx_ai, sx_al, sx_ab, sy_a, sz_a, sx_bi, sx_bl, sx_ba, sy_b, sz_b]
          rw [nI_clamp (n := j) (by omega), p7]
          refine ⟨vin (by omega), pk_le e.2.1 i (fun _ => ?_) (fun z => absurd z (by omega))⟩
          unfold wp_M_spell_94
          rw [nI_1]
          refine ih (j + 1) g (by omega) (shA_cg hs' (fun c w' p => ?_))
          constructor
          · rintro ⟨k', e', z1, z2, z3, z4, z5⟩
            exact ⟨k', e', z1, z2, z3, z4, Or.inl (by omega)⟩
          · rintro ⟨k', e', z1, z2, z3, z4, z5⟩
            refine ⟨k', e', z1, z2, z3, z4, ?_⟩
            rcases Nat.lt_or_ge k' j with y | y
            · exact Or.inl y
            · have : k' = j := by omega
              subst this
              rw [he] at z1; cases z1
              exact Or.inr ⟨rfl, by omega⟩
        | succ r ih2 =>
          intro i g hi hs'
          show wp_M_spell_51 post _ _ _ _ _
          unfold wp_M_spell_51
          simp (decide := true) only [sx_il, sx_ia, sx_ib, sy_i, sz_i, sx_li, sx_la, sx_lb, sy_l, sz_l, sx_ai, sx_al, sx_ab, sy_a, sz_a, sx_bi, sx_bl, sx_ba, sy_b, sz_b]
          rw [nI_clamp (n := j) (by omega), p7]
          refine ⟨vin (by omega), pk_le e.2.1 i (fun z => absurd z (by omega)) (fun _ => ?_)⟩
          refine sp_M_cellOf (A := A) (MB_a12 hB) he ?_
          simp (decide := true) only [sx_il, sx_ia, sx_ib, sy_i, sz_i, sx_li, sx_la, sx_lb, sy_l, sz_l, sx_ai, sx_al, sx_ab, sy_a, sz_a, sx_bi, sx_bl, sx_ba, sy_b, sz_b]
          have ei : 6 * nI w + nI i = nI (w * 6 + i) := by rw [show (6 : Int32) = nI 6 from rfl, pk_mul, nI_add, Nat.mul_comm]
          obtain ⟨el, -⟩ := elt i (by rw [hfg.1]; omega)
          have hc := hcl i (by omega)
          rw [hnj, ha, oI_some, ei, nI_clamp (n := w * 6 + i) (by omega), el, nI_clamp (n := celp A.W e i) (by omega), nI_1]
          refine ⟨vin (by omega), vin (by omega), fun v ev => ⟨vin hc, ?_⟩⟩
          subst ev
          rw [so_a]
          exact ih2 (i + 1) _ (by omega) (shA_up hcs he ha (by omega) hs')
  unfold wp_M_spell
  refine ⟨37, ?_⟩
  suffices ∀ t c f, c + t = 36 → (∀ d, d < c → f d = nI (A.gv d)) → wp_M_spell_2_f post (t + 1) (nI c) (ss_a u 12 f) by
    have z := this 36 0 (sg_a u 12) rfl (fun d hd => absurd hd (Nat.not_lt_zero d))
    rw [ss_a_id] at z
    exact z
  intro t
  induction t with
  | zero =>
    intro c f hc hf
    show wp_M_spell_2 post _ _ _
    unfold wp_M_spell_2
    have e : c = 36 := by omega
    subst e
    refine ⟨fun _ => ⟨A.S.length + 1, slots A.S.length 0 f (Nat.zero_add _) (fun c hc => ⟨fun w p z => ?_, fun _ => hf c hc⟩)⟩, fun z => absurd (Int32.le_refl _) z⟩
    obtain ⟨_, _, _, _, _, _, z⟩ := z
    omega
  | succ t ih =>
    intro c f hc hf
    show wp_M_spell_2 post _ _ _
    unfold wp_M_spell_2
    simp (decide := true) only [sx_il, sx_ia, sx_ib, sy_i, sz_i, sx_li, sx_la, sx_lb, sy_l, sz_l, sx_ai, sx_al, sx_ab, sy_a, sz_a, sx_bi, sx_bl, sx_ba, sy_b, sz_b]
    rw [nI_clamp (n := c) (by omega), (hV c (by omega)).1, nI_1]
    refine pk_le 36 c (fun z => absurd z (by omega)) (fun _ => ⟨vin (by omega), fun v ev => ⟨vin (by omega), ?_⟩⟩)
    subst ev
    rw [so_a]
    refine ih (c + 1) _ (by omega) (fun d hd => ?_)
    by_cases q : d = c
    · subst q; rw [pk_us]
    · rw [pk_un q]; exact hf d (by omega)
theorem sp_M_isUsed {A : AS} {asg : Nat → Option Nat} {w : Nat} {u : zz_St} {post : Int32 → zz_St → Prop} (hB : MB A u) (hn : nowR A asg u) (hcs : cons A asg) (hw : w < A.n) (h1 : usedA A asg w → post 1 u) (h0 : ¬ usedA A asg w → post 0 u) : wp_M_isUsed (nI w) u post := by
  have h24 := S_len hB.1.1
  have e5 := hB.1.2.1
  have n80 := hB.2.1.1
  unfold wp_M_isUsed
  refine ⟨A.S.length + 1, ?_⟩
  suffices ∀ t j, j + t = A.S.length → (∀ k, k < j → asg k ≠ some w) → wp_M_isUsed_2_f post (t + 1) (nI w) (nI j) u from this A.S.length 0 (Nat.zero_add _) (fun k hk => absurd hk (Nat.not_lt_zero k))
  intro t
  induction t with
  | zero =>
    intro j hj hs
    show wp_M_isUsed_2 post _ _ _ _
    unfold wp_M_isUsed_2
    rw [e5]
    refine pk_le A.S.length j (fun _ => h0 ?_) (fun z => absurd z (by omega))
    rintro ⟨k, z1, z2⟩
    exact hs k (by omega) z2
  | succ t ih =>
    intro j hj hs
    show wp_M_isUsed_2 post _ _ _ _
    unfold wp_M_isUsed_2
    rw [e5, nI_clamp (n := j) (by omega), hn j (by omega), nI_1]
    refine pk_le A.S.length j (fun z => absurd z (by omega)) (fun _ => ⟨vin (by omega), ?_⟩)
    cases ha : asg j with
    | none =>
      refine ⟨fun z => absurd z.symm (nI_nm1 (by omega)), fun _ => ih (j + 1) (by omega) (fun k hk => ?_)⟩
      by_cases q : k = j
      · subst q; rw [ha]; exact fun z => by cases z
      · exact hs k (by omega)
    | some w' =>
      obtain ⟨e, he⟩ := S_get (A := A) (k := j) (by omega)
      have hwn := (hcs j e w' he ha).1
      refine pk_eq w' w (fun q => h1 ⟨j, by omega, by rw [ha, q]⟩) (fun q => ih (j + 1) (by omega) (fun k hk => ?_))
      by_cases q2 : k = j
      · subst q2; rw [ha]; exact fun z => q (by cases z; rfl)
      · exact hs k (by omega)
def okP (A : AS) (asg : Nat → Option Nat) (e : Nat × Nat × Nat) (w p : Nat) : Prop := (A.gv (celp A.W e p) = 0 ∨ A.gv (celp A.W e p) = A.lt w p) ∧ ∀ (k' : Nat) (e' : Nat × Nat × Nat) (w' p' : Nat), A.S[k']? = some e' → asg k' = some w' → p' < e'.2.1 → celp A.W e p = celp A.W e' p' → A.lt w p = A.lt w' p'
theorem cell_ok {A : AS} {asg : Nat → Option Nat} {e : Nat × Nat × Nat} {w p : Nat} {u : zz_St} {f : Nat → Int32} (hB : MB A u) (hcs : cons A asg) (hsh : shA A asg A.S.length 0 f) (hc : celp A.W e p < 36) : ∃ x, x ≤ 122 ∧ f (celp A.W e p) = nI x ∧ ((x = 0 ∨ x = A.lt w p) ↔ okP A asg e w p) := by
  obtain ⟨⟨hG, e5, e6, hP⟩, ⟨n80, e4, hwd⟩, hK, hV, hT⟩ := id hB
  by_cases q : ∃ w' p', cov A asg A.S.length 0 (celp A.W e p) w' p'
  · obtain ⟨w', p', hcv⟩ := q
    have hf := (hsh _ hc).1 w' p' hcv
    obtain ⟨k', e', z1, z2, z3, z4, -⟩ := hcv
    obtain ⟨c1, c2, c3⟩ := hcs k' e' w' z1 z2
    obtain ⟨-, -, -, -, -, elt⟩ := hwd w' c1
    obtain ⟨-, l97, l122⟩ := elt p' (by rw [c2.1]; exact z3)
    refine ⟨A.lt w' p', l122, hf, ?_, ?_⟩
    · rintro (z | z)
      · omega
      · refine ⟨?_, fun k2 e2 w2 p2 y1 y2 y3 y4 => ?_⟩
        · rw [← z, ← z4]; exact c2.2.2 p' z3
        · rw [← z]; exact c3 k2 e2 w2 y1 y2 p' p2 z3 y3 (z4.trans y4)
    · rintro ⟨-, z⟩
      exact Or.inr (z k' e' w' p' z1 z2 z3 z4.symm).symm
  · have hf := (hsh _ hc).2 (fun w' p' z => q ⟨w', p', z⟩)
    obtain ⟨-, hg⟩ := hV _ hc
    refine ⟨A.gv (celp A.W e p), by omega, hf, fun z => ⟨z, fun k' e' w' p' y1 y2 y3 y4 => absurd ⟨w', p', k', e', y1, y2, y3, y4.symm, Or.inl ?_⟩ q⟩, fun z => z.1⟩
    exact (S_e hG y1).1
theorem sp_M_mayHave {A : AS} {asg : Nat → Option Nat} {k w : Nat} {u : zz_St} {post : Int32 → zz_St → Prop} (hB : MB A u) (hVA : VA A) (hn : nowR A asg u) (hcs : cons A asg) (hsh : shA A asg A.S.length 0 (sg_a u 12)) (hk : k < A.S.length) (hw : w < A.n) (h1 : fitA A asg k w ∧ ¬ usedA A asg w → post 1 u) (h0 : ¬ (fitA A asg k w ∧ ¬ usedA A asg w) → post 0 u) : wp_M_mayHave (nI k) (nI w) u post := by
  have h24 := S_len hB.1.1
  obtain ⟨⟨hG, e5, e6, hP⟩, ⟨n80, e4, hwd⟩, hK, hV, hT⟩ := id hB
  obtain ⟨e, he⟩ := S_get hk
  obtain ⟨-, l2, l6, -, hcl⟩ := S_e hG he
  obtain ⟨-, p7, -⟩ := hP k e he
  obtain ⟨wl2, wl6, -, w3, -, elt⟩ := hwd w hw
  have fe : ∀ e', A.S[k]? = some e' → e' = e := fun e' z => by rw [he] at z; cases z; rfl
  have rest : A.len w = e.2.1 → (∀ t, A.th k = some t → t = w) → wp_M_mayHave_35 post (nI k) (nI w) u := by
    intro hl ht
    unfold wp_M_mayHave_35
    refine sp_M_isUsed hB hn hcs hw (fun hu => ⟨fun z => absurd z (by decide), fun _ => h0 (fun z => z.2 hu)⟩) (fun hu => ⟨fun _ => ⟨e.2.1 + 1, ?_⟩, fun z => absurd rfl z⟩)
    suffices ∀ r p, p + r = e.2.1 → (∀ q, q < p → okP A asg e w q) → wp_M_mayHave_47_f post (r + 1) (nI k) (nI w) (nI p) u from this e.2.1 0 (Nat.zero_add _) (fun q hq => absurd hq (Nat.not_lt_zero q))
    intro r
    induction r with
    | zero =>
      intro p hp hs
      show wp_M_mayHave_47 post _ _ _ _ _
      unfold wp_M_mayHave_47
      rw [nI_clamp (n := k) (by omega), p7]
      refine ⟨vin (by omega), pk_le e.2.1 p (fun _ => h1 ⟨⟨e, he, ⟨hl, ht, fun q hq => (hs q (by omega)).1⟩, fun k' e' w' y1 y2 p1 p2 y3 y4 y5 => (hs p1 (by omega)).2 k' e' w' p2 y1 y2 y4 y5⟩, hu⟩) (fun z => absurd z (by omega))⟩
    | succ r ih =>
      intro p hp hs
      show wp_M_mayHave_47 post _ _ _ _ _
      unfold wp_M_mayHave_47
      rw [nI_clamp (n := k) (by omega), p7]
      refine ⟨vin (by omega), pk_le e.2.1 p (fun z => absurd z (by omega)) (fun _ => ?_)⟩
      refine sp_M_cellOf (A := A) hB he ?_
      have hc := hcl p (by omega)
      obtain ⟨x, x1, x2, x3⟩ := cell_ok (w := w) (p := p) hB hcs hsh hc
      obtain ⟨el, l97, l122⟩ := elt p (by omega)
      have ei : 6 * nI w + nI p = nI (w * 6 + p) := by rw [show (6 : Int32) = nI 6 from rfl, pk_mul, nI_add, Nat.mul_comm]
      have more : okP A asg e w p → wp_M_mayHave_93 post (wp_M_mayHave_47_f post (r + 1)) (nI k) (nI w) (nI p) u := fun z => by
        unfold wp_M_mayHave_93
        rw [nI_1]
        refine ih (p + 1) (by omega) (fun q hq => ?_)
        by_cases y : q = p
        · subst y; exact z
        · exact hs q (by omega)
      rw [nI_clamp (n := celp A.W e p) (by omega), x2, ei, nI_clamp (n := w * 6 + p) (by omega), el]
      refine ⟨vin hc, fun v ev => ?_⟩
      subst ev
      refine pk_eq x 0 (fun z => more (x3.mp (Or.inl z))) (fun z => ⟨vin (by omega), pk_eq x (A.lt w p) (fun y => more (x3.mp (Or.inr y))) (fun y => h0 (fun zz => ?_))⟩)
      obtain ⟨⟨e', y1, y2, y3⟩, -⟩ := zz
      have := fe e' y1
      subst this
      rcases x3.mpr ⟨y2.2.2 p (by omega), fun k2 e2 w2 p2 b1 b2 b3 b4 => y3 k2 e2 w2 b1 b2 p p2 (by omega) b3 b4⟩ with b | b
      · exact z b
      · exact y b
  unfold wp_M_mayHave
  rw [nI_clamp (n := w) (by omega), nI_clamp (n := k) (by omega), w3, p7, hT k hk]
  refine ⟨vin (by omega), vin (by omega), pk_eq (A.len w) e.2.1 (fun hl => ⟨vin (by omega), ?_⟩) (fun z => h0 ?_)⟩
  · cases ht : A.th k with
    | none => exact ⟨fun _ => rest hl (fun t z => by rw [ht] at z; cases z), fun z => absurd rfl z⟩
    | some t =>
      have hb := (hVA.1 k e t he ht).1
      refine ⟨fun z => absurd z (nI_nm1 (by omega)), fun _ => ⟨vin (by omega), pk_eq t w (fun q => rest hl (fun t' z => by rw [ht] at z; cases z; exact q)) (fun q => h0 ?_)⟩⟩
      rintro ⟨⟨e', y1, y2, y3⟩, -⟩
      exact q (y2.2.1 t ht)
  · rintro ⟨⟨e', y1, y2, y3⟩, -⟩
    have := fe e' y1
    subst this
    exact z y2.1
theorem ordW_cnt {sc : Nat → Nat} {p : Nat → Bool} : ∀ {n : Nat}, ((ordW sc n).filter p).length = cntB n p := by
  intro n
  induction n with
  | zero => rfl
  | succ n ih =>
    show ((insW sc n (ordW sc n)).filter p).length = _
    rw [insW_filter ordW_dsc, cntB]
    by_cases q : p n = true
    · rw [if_pos q, if_pos q, insW_len, ih]; omega
    · rw [if_neg q, if_neg q, ih]; omega
theorem sp_M_countFor {A : AS} {asg : Nat → Option Nat} {k : Nat} {u : zz_St} {post : Int32 → zz_St → Prop} (hB : MB A u) (hVA : VA A) (hn : nowR A asg u) (hcs : cons A asg) (hsh : shA A asg A.S.length 0 (sg_a u 12)) (hk : k < A.S.length) (h : post (nI (cL A asg k).length) u) : wp_M_countFor (nI k) u post := by
  obtain ⟨n80, e4, -⟩ := id hB.2.1
  unfold wp_M_countFor
  refine ⟨A.n + 1, ?_⟩
  unfold cL at h
  rw [ordW_cnt] at h
  suffices ∀ t w, w + t = A.n → wp_M_countFor_4_f post (t + 1) (nI k) (nI (cntB w (fun w => pB (fitA A asg k w ∧ ¬ usedA A asg w)))) (nI w) u from this A.n 0 (Nat.zero_add _)
  intro t
  induction t with
  | zero =>
    intro w hw
    show wp_M_countFor_4 post _ _ _ _ _
    unfold wp_M_countFor_4
    rw [e4]
    have e : w = A.n := by omega
    subst e
    exact pk_le A.n A.n (fun _ => h) (fun z => absurd z (by omega))
  | succ t ih =>
    intro w hw
    show wp_M_countFor_4 post _ _ _ _ _
    unfold wp_M_countFor_4
    rw [e4]
    refine pk_le A.n w (fun z => absurd z (by omega)) (fun _ => ?_)
    have z := ih (w + 1) (by omega)
    rw [cntB] at z
    refine sp_M_mayHave hB hVA hn hcs hsh hk (by omega) (fun q => ⟨fun z => absurd z (by decide), fun _ => ?_⟩) (fun q => ⟨fun _ => ?_, fun z => absurd rfl z⟩)
    · unfold wp_M_countFor_27
      intro v ev
      subst ev
      rw [if_pos (pB_iff.mpr q), Nat.add_comm 1 (cntB _ _)] at z
      rw [nI_1, nI_1]
      exact z
    · unfold wp_M_countFor_27
      intro v ev
      subst ev
      rw [if_neg (fun y => q (pB_iff.mp y)), Nat.zero_add] at z
      rw [nI_1, show (0 : Int32) = nI 0 from rfl, nI_add, Nat.add_zero]
      exact z
