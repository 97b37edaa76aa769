theorem vin {n N : Nat} (h : n < N) (hN : N < 2 ^ 31 := by decide) : vp_in (nI n) N := nI_in h hN
def pJ (W H : Nat) (bl : Nat → Nat) (L : Nat → Nat) (k : Nat) : Prop := (∀ c, c < W * H → L c < 36) ∧ (∀ a b, a < W * H → b < W * H → L a = L b → con W H bl a b) ∧ k = ndc (W * H) (fun c => bl c = 0) (fun a b => L a = L b)
def pE (W H : Nat) (bl : Nat → Nat) (L : Nat → Nat) (x y x' y' : Nat) : Prop := opn W H bl x y = true → opn W H bl x' y' = true → L (x + W * y) = L (x' + W * y')
theorem pJ_merge {W H : Nat} {bl L : Nat → Nat} {k p q : Nat} (hJ : pJ W H bl L k) (hp : p < W * H ∧ bl p = 0) (hq : q < W * H ∧ bl q = 0) (hc : con W H bl p q) (hne : L p ≠ L q) : ∃ k', k' + 1 = k ∧ pJ W H bl (fun c => if L c = L q then L p else L c) k' := by
  obtain ⟨j1, j2, j3⟩ := hJ
  refine ⟨ndc (W * H) (fun c => bl c = 0) (fun a b => (if L a = L q then L p else L a) = (if L b = L q then L p else L b)), ?_, ?_, ?_, rfl⟩
  · rw [j3]
    exact ndc_merge (o := fun c => bl c = 0) hne ⟨hp.1, hp.2, rfl⟩ ⟨hq.1, hq.2, rfl⟩
  · intro c hc
    show (if L c = L q then L p else L c) < 36
    split
    · exact j1 p hp.1
    · exact j1 c hc
  · intro a b ha hb
    show (if L a = L q then L p else L a) = (if L b = L q then L p else L b) → _
    intro e
    by_cases ea : L a = L q
    · by_cases eb : L b = L q
      · exact j2 a b ha hb (ea.trans eb.symm)
      · rw [if_pos ea, if_neg eb] at e
        exact con_trans (j2 a q ha hq.1 ea) (con_trans (con_symm hc) (j2 p b hp.1 hb e))
    · by_cases eb : L b = L q
      · rw [if_neg ea, if_pos eb] at e
        exact con_trans (j2 a p ha hp.1 e) (con_trans hc (j2 q b hq.1 hb eb.symm))
      · rw [if_neg ea, if_neg eb] at e
        exact j2 a b ha hb e
theorem sp_G_cellAtN {W H : Nat} {bl : Nat → Nat} {x y : Nat} {u : zz_St} {post : Int32 → zz_St → Prop} (hG : rG W H bl (sg_i u 0) (sg_i u 1) (sg_a u 0)) (hx : x < W) (hy : y < H) (h1 : post (nI (x + W * y)) u) : wp_G_cellAt (nI x) (nI y) u post := by
  have w2 := hG.2.1
  have w4 := hG.2.2.2.1
  refine sp_G_cellAt hG (fun x' y' z1 z2 e1 e2 => ?_) (fun z => (z x y hx hy rfl rfl).elim)
  have e1' := nI_inj (by omega) (by omega) e1
  have e2' := nI_inj (by omega) (by omega) e2
  rw [← e1', ← e2']
  exact h1
theorem sp_G_join {W H : Nat} {bl L : Nat → Nat} {k x y x' y' : Nat} {u : zz_St} {post : Int32 → zz_St → Prop} (hG : rG W H bl (sg_i u 0) (sg_i u 1) (sg_a u 0)) (e2 : sg_i u 2 = nI (W * H)) (hJ : pJ W H bl L k) (hf : ∀ c, c < W * H → sg_a u 8 c = nI (L c)) (hx : x < 2 ^ 30) (hy : y < 2 ^ 30) (hx' : x' < 2 ^ 30) (hy' : y' < 2 ^ 30)
    (hc : opn W H bl x y = true → opn W H bl x' y' = true → con W H bl (x + W * y) (x' + W * y'))
    (h : ∀ (L' : Nat → Nat) (f : Nat → Int32) (k' r : Nat), pJ W H bl L' k' → (∀ c, c < W * H → f c = nI (L' c)) → (∀ a b, L a = L b → L' a = L' b) → pE W H bl L' x y x' y' → r ≤ 1 → k' + r = k → post (nI r) (ss_a u 8 f)) : wp_G_join (nI x) (nI y) (nI x') (nI y') u post := by
  have same : pE W H bl L x y x' y' → post 0 u := fun q => by
    have := h L (sg_a u 8) k 0 hJ hf (fun _ _ e => e) q (by omega) rfl
    rw [ss_a_id] at this
    exact this
  obtain ⟨w1, w2, w3, w4, ew, eh, hb⟩ := id hG
  have h36 := WH_le w2 w4
  unfold wp_G_join
  refine sp_G_isOpenN hG hx hy (fun o1 => ⟨fun z => absurd z (by decide), fun _ => ?_⟩) (fun o1 => ⟨fun _ => same (fun q => by rw [o1] at q; cases q), fun z => absurd rfl z⟩)
  refine sp_G_isOpenN hG hx' hy' (fun o2 => ⟨fun z => absurd z (by decide), fun _ => ?_⟩) (fun o2 => ⟨fun _ => same (fun _ q => by rw [o2] at q; cases q), fun z => absurd rfl z⟩)
  obtain ⟨p1, p2, p3⟩ := opn_iff.mp o1
  obtain ⟨q1, q2, q3⟩ := opn_iff.mp o2
  have cp := cell_lt p1 p2
  have cq := cell_lt q1 q2
  refine sp_G_cellAtN hG p1 p2 ⟨vin (by omega), ?_⟩
  rw [nI_clamp (n := x + W * y) (by omega), hf _ cp]
  intro v9 e9
  subst e9
  refine sp_G_cellAtN hG q1 q2 ⟨vin (by omega), ?_⟩
  rw [nI_clamp (n := x' + W * y') (by omega), hf _ cq]
  intro v12 e12
  subst e12
  have l1 := hJ.1 _ cp
  have l2 := hJ.1 _ cq
  refine pk_eq (L (x + W * y)) (L (x' + W * y')) (fun e => same (fun _ _ => e)) (fun hne => ?_)
  obtain ⟨k', ek, hJ'⟩ := pJ_merge hJ ⟨cp, p3⟩ ⟨cq, q3⟩ (hc o1 o2) hne
  generalize hP : L (x + W * y) = P at *
  generalize hQ : L (x' + W * y') = Q at *
  refine ⟨W * H + 1, ?_⟩
  suffices ∀ t n f, n + t = W * H → (∀ c, c < W * H → f c = nI (if c < n ∧ L c = Q then P else L c)) → wp_G_join_60_f post (t + 1) (nI P) (nI Q) (nI n) (ss_a u 8 f) from by
    have q := this (W * H) 0 (sg_a u 8) (Nat.zero_add _) (fun c hc => by rw [hf c hc, if_neg (fun z => absurd z.1 (Nat.not_lt_zero c))])
    rw [ss_a_id] at q
    exact q
  intro t
  induction t with
  | zero =>
    intro n f hn hfn
    show wp_G_join_60 post _ _ _ _ _
    unfold wp_G_join_60
    simp (decide := true) only [sx_il, sx_ia, sx_ib, sy_i, sz_i, sx_li, sx_la, sx_lb, sy_l, sz_l, sx_ai, sx_al, sx_ab, sy_a, sz_a, sx_bi, sx_bl, sx_ba, sy_b, sz_b]
    rw [e2]
    refine pk_le (W * H) n (fun _ => ?_) (fun z => absurd z (by omega))
    refine h _ f k' 1 hJ' (fun c hc => ?_) (fun a b e => ?_) (fun _ _ => ?_) (by omega) ek
    · rw [hfn c hc]
      by_cases ec : L c = Q
      · rw [if_pos ⟨by omega, ec⟩, if_pos ec]
      · rw [if_neg (fun z => ec z.2), if_neg ec]
    · show (if L a = Q then P else L a) = (if L b = Q then P else L b)
      rw [e]
    · show (if L (x + W * y) = Q then P else L (x + W * y)) = (if L (x' + W * y') = Q then P else L (x' + W * y'))
      rw [hP, hQ, if_pos rfl, if_neg hne]
  | succ t ih =>
    intro n f hn hfn
    have ln := hJ.1 n (by omega)
    show wp_G_join_60 post _ _ _ _ _
    unfold wp_G_join_60 wp_G_join_90
    simp (decide := true) only [sx_il, sx_ia, sx_ib, sy_i, sz_i, sx_li, sx_la, sx_lb, sy_l, sz_l, sx_ai, sx_al, sx_ab, sy_a, sz_a, sx_bi, sx_bl, sx_ba, sy_b, sz_b]
    rw [e2, nI_clamp (n := n) (by omega), hfn n (by omega), if_neg (fun z => absurd z.1 (by omega)), nI_1]
    refine pk_le (W * H) n (fun z => absurd z (by omega)) (fun _ => ⟨vin (by omega), ?_⟩)
    refine pk_eq (L n) Q (fun e => ⟨vin (by omega), ?_⟩) (fun e => ?_)
    · rw [so_a]
      refine ih (n + 1) _ (by omega) (fun c hc => ?_)
      by_cases ec : c = n
      · subst ec
        rw [pk_us, if_pos ⟨by omega, e⟩]
      · rw [pk_un ec, hfn c hc]
        by_cases e3 : c < n ∧ L c = Q
        · rw [if_pos e3, if_pos ⟨by omega, e3.2⟩]
        · rw [if_neg e3, if_neg (fun z => e3 ⟨by omega, z.2⟩)]
    · refine ih (n + 1) _ (by omega) (fun c hc => ?_)
      rw [hfn c hc]
      by_cases e3 : c < n ∧ L c = Q
      · rw [if_pos e3, if_pos ⟨by omega, e3.2⟩]
      · rw [if_neg e3, if_neg (fun z => e3 ⟨by
          by_cases ec : c = n
          · subst ec; exact absurd z.2 e
          · omega, z.2⟩)]
