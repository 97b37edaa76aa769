theorem dsc_get {sc : Nat → Nat} {l : List Nat} (h : dsc sc l) {i j a b : Nat} (hij : i ≤ j) (ha : l[i]? = some a) (hb : l[j]? = some b) : sc b ≤ sc a := by
  obtain ⟨h1, e1⟩ := List.getElem?_eq_some_iff.mp ha
  obtain ⟨h2, e2⟩ := List.getElem?_eq_some_iff.mp hb
  rcases Nat.lt_or_ge i j with q | q
  · have := (List.pairwise_iff_getElem.mp h) i j h1 h2 q
    rw [e1, e2] at this
    exact this
  · have e : i = j := by omega
    subst e
    rw [e1] at e2
    rw [e2]
    exact Nat.le_refl _
theorem sp_L_rank {n : Nat} {sc : Nat → Nat} {u : zz_St} {post : zz_St → Prop} (hn : n < 80) (hs : ∀ w, w ≤ n → sg_a u 10 w = nI (sc w) ∧ sc w ≤ 1000) (hA : ∀ (r a : Nat), (ordW sc n)[r]? = some a → sg_a u 11 r = nI a)
    (h : ∀ A : Nat → Int32, (∀ (r a : Nat), (ordW sc (n + 1))[r]? = some a → A r = nI a) → post (ss_a u 11 A)) : wp_L_rank (nI n) u post := by
  have hlen : (ordW sc n).length = n := ordW_len
  have hlt : ∀ {r a : Nat}, (ordW sc n)[r]? = some a → a < n := fun q => ordW_mem.mp (List.mem_of_getElem? q)
  suffices ∀ j A, j ≤ n → (∀ i a : Nat, i < j → (ordW sc n)[i]? = some a → A i = nI a) → (∀ i a : Nat, j ≤ i → (ordW sc n)[i]? = some a → A (i + 1) = nI a ∧ sc a < sc n) → ∃ m, wp_L_rank_2_f post m (nI n) (nI j) (ss_a u 11 A) by
    obtain ⟨m, hm⟩ := this n (sg_a u 11) (Nat.le_refl n) (fun i a _ q => hA i a q) (fun i a q1 q2 => by
      have := (List.getElem?_eq_some_iff.mp q2).1
      omega)
    rw [ss_a_id] at hm
    exact ⟨m, hm⟩
  have ex : ∀ j A, j ≤ n → (∀ i a : Nat, i < j → (ordW sc n)[i]? = some a → A i = nI a) → (∀ i a : Nat, j ≤ i → (ordW sc n)[i]? = some a → A (i + 1) = nI a ∧ sc a < sc n) → (∀ i a : Nat, i < j → (ordW sc n)[i]? = some a → ¬ sc a < sc n) → wp_L_rank_48 post (nI n) (nI j) (ss_a u 11 A) := by
    intro j A hj h1 h2 h3
    unfold wp_L_rank_48
    simp (decide := true) only [sx_il, sx_ia, sx_ib, sy_i, sz_i, sx_li, sx_la, sx_lb, sy_l, sz_l, sx_ai, sx_al, sx_ab, sy_a, sz_a, sx_bi, sx_bl, sx_ba, sy_b, sz_b]
    rw [pk_cl j, so_a]
    refine ⟨pk_in j 80 (by omega), h _ (fun r a hr => ?_)⟩
    rw [ordW, insW_at (j := j) (by omega) h3 (fun a q => (h2 j a (Nat.le_refl j) q).2), take_drop_get (by omega)] at hr
    unfold upd
    by_cases q : r < j
    · rw [if_pos q] at hr
      rw [if_neg (by omega)]
      exact h1 r a q hr
    · rw [if_neg q] at hr
      by_cases q2 : r = j
      · rw [if_pos q2] at hr
        rw [if_pos q2]
        cases hr
        rfl
      · rw [if_neg q2] at hr
        rw [if_neg q2]
        have := (h2 (r - 1) a (by omega) hr).1
        rw [show r - 1 + 1 = r by omega] at this
        exact this
  intro j
  induction j with
  | zero =>
    intro A hj h1 h2
    refine ⟨1, ?_⟩
    show wp_L_rank_2 post _ _ _ _
    unfold wp_L_rank_2
    exact pk_le 0 0 (fun _ => ex 0 A hj h1 h2 (fun i a q => absurd q (Nat.not_lt_zero i))) (fun q => absurd q (by omega))
  | succ j ih =>
    intro A hj h1 h2
    obtain ⟨a, ha⟩ : ∃ a, (ordW sc n)[j]? = some a := ⟨_, List.getElem?_eq_getElem (by omega)⟩
    have hal := hlt ha
    have eA : A j = nI a := h1 j a (by omega) ha
    have ej : nI (j + 1) - 1 = nI j := nI_pred j
    have hsn := hs n (Nat.le_refl n)
    have hsa := hs a (by omega)
    by_cases hc : sc a < sc n
    · obtain ⟨m, hm⟩ := ih (upd A (j + 1) (nI a)) (by omega) (fun i b hi hb => by
        unfold upd
        rw [if_neg (by omega)]
        exact h1 i b (by omega) hb) (fun i b hi hb => by
        unfold upd
        by_cases q : i = j
        · subst q
          rw [ha] at hb
          cases hb
          rw [if_pos rfl]
          exact ⟨rfl, hc⟩
        · rw [if_neg (by omega)]
          exact h2 i b (by omega) hb)
      refine ⟨m + 1, ?_⟩
      show wp_L_rank_2 post _ _ _ _
      unfold wp_L_rank_2
      simp (decide := true) only [sx_il, sx_ia, sx_ib, sy_i, sz_i, sx_li, sx_la, sx_lb, sy_l, sz_l, sx_ai, sx_al, sx_ab, sy_a, sz_a, sx_bi, sx_bl, sx_ba, sy_b, sz_b]
      rw [ej, nI_clamp (n := j) (by omega), eA, nI_clamp (n := a) (by omega), nI_clamp (n := n) (by omega), nI_clamp (n := j + 1) (by omega), hsn.1, hsa.1]
      refine pk_le (j + 1) 0 (fun q => absurd q (by omega)) (fun _ => ⟨pk_in j 80 (by omega), pk_in a 80 (by omega), pk_in n 80 hn, ?_⟩)
      refine pk_le (sc n) (sc a) (fun q => absurd q (by omega)) (fun _ => ⟨pk_in j 80 (by omega), fun v ev => ⟨pk_in (j + 1) 80 (by omega), ?_⟩⟩)
      rw [ev, so_a, pk_m1]
      exact hm
    · refine ⟨1, ?_⟩
      show wp_L_rank_2 post _ _ _ _
      unfold wp_L_rank_2
      simp (decide := true) only [sx_il, sx_ia, sx_ib, sy_i, sz_i, sx_li, sx_la, sx_lb, sy_l, sz_l, sx_ai, sx_al, sx_ab, sy_a, sz_a, sx_bi, sx_bl, sx_ba, sy_b, sz_b]
      rw [ej, nI_clamp (n := j) (by omega), eA, nI_clamp (n := a) (by omega), nI_clamp (n := n) (by omega), hsn.1, hsa.1]
      refine pk_le (j + 1) 0 (fun q => absurd q (by omega)) (fun _ => ⟨pk_in j 80 (by omega), pk_in a 80 (by omega), pk_in n 80 hn, ?_⟩)
      refine pk_le (sc n) (sc a) (fun _ => ex (j + 1) A hj h1 h2 (fun i b hi hb => ?_)) (fun q => absurd q (by omega))
      have := dsc_get (ordW_dsc (sc := sc) (n := n)) (i := i) (j := j) (by omega) hb ha
      omega
