def okG (W H : Nat) (bl : Nat → Nat) (a0 a1 a2 : Int32) : Prop := ∃ x y g : Nat, opn W H bl x y = true ∧ a0 = nI x ∧ a1 = nI y ∧ (g = 0 ∨ 97 ≤ g ∧ g ≤ 122) ∧ a2 = nI g
theorem sp_X_given {W H : Nat} {bl : Nat → Nat} {a0 a1 a2 : Int32} {u : zz_St} {post : Int32 → zz_St → Prop} (hG : rG W H bl (sg_i u 0) (sg_i u 1) (sg_a u 0))
    (h1 : ∀ x y g : Nat, opn W H bl x y = true → a0 = nI x → a1 = nI y → (g = 0 ∨ 97 ≤ g ∧ g ≤ 122) → a2 = nI g → post 1 (ss_a u 1 (upd (sg_a u 1) (x + W * y) (nI g)))) (h0 : ¬ okG W H bl a0 a1 a2 → post 0 u) : wp_X_given a0 a1 a2 u post := by
  obtain ⟨w1, w2, w3, w4, ew, eh, hb⟩ := id hG
  refine sp_G_cellAt hG (fun x y hx hy e1 e2 => ?_) (fun q => ⟨fun _ => h0 ?_, fun z => absurd rfl z⟩)
  · have hlt := cell_lt hx hy
    have h36 := WH_le w2 w4
    refine ⟨fun c => absurd c (nI_nm1 (by omega)), fun _ => ⟨pk_in (x + W * y) 36 (by omega), ?_⟩⟩
    rw [nI_clamp (n := x + W * y) (by omega), (hb _ (by omega)).1]
    have h5 := (hb (x + W * y) (by omega)).2
    have fin : opn W H bl x y = true → ∀ g : Nat, (g = 0 ∨ 97 ≤ g ∧ g ≤ 122) → a2 = nI g → wp_X_given_43 post a2 (nI (x + W * y)) u := by
      intro o g hg eg
      unfold wp_X_given_43
      rw [nI_clamp (n := x + W * y) (by omega), eg]
      exact ⟨pk_in (x + W * y) 36 (by omega), h1 x y g o e1 e2 hg eg⟩
    refine pk_eq (bl (x + W * y)) 0 (fun c => ?_) (fun c => h0 ?_)
    · have o := opn_iff.mpr ⟨hx, hy, c⟩
      refine ⟨fun z => fin o 0 (Or.inl rfl) z, fun z => sp_X_isLetter (fun g g1 g2 eg => ⟨fun z => absurd z (by decide), fun _ => fin o g (Or.inr ⟨g1, g2⟩) eg⟩) (fun q => ⟨fun _ => h0 ?_, fun z => absurd rfl z⟩)⟩
      rintro ⟨x', y', g, -, -, -, hg, eg⟩
      rcases hg with rfl | ⟨g1, g2⟩
      · exact z eg
      · exact q ⟨g, g1, g2, eg⟩
    · rintro ⟨x', y', g, o, e3, e4, -⟩
      obtain ⟨o1, o2, o3⟩ := opn_iff.mp o
      have q1 : x = x' := nI_inj (by omega) (by omega) (e1.symm.trans e3)
      have q2 : y = y' := nI_inj (by omega) (by omega) (e2.symm.trans e4)
      rw [q1, q2] at c
      exact c o3
  · rintro ⟨x', y', g, o, e3, e4, -⟩
    obtain ⟨o1, o2, o3⟩ := opn_iff.mp o
    exact q x' y' o1 o2 e3 e4
theorem sp_M_given {W H : Nat} {bl : Nat → Nat} {a0 a1 a2 : Int32} {u : zz_St} {post : Int32 → zz_St → Prop} (hG : rG W H bl (sg_i u 1) (sg_i u 2) (sg_a u 0))
    (h1 : ∀ x y g : Nat, opn W H bl x y = true → a0 = nI x → a1 = nI y → (g = 0 ∨ 97 ≤ g ∧ g ≤ 122) → a2 = nI g → post 1 (ss_a (ss_i u 0 0) 1 (upd (sg_a u 1) (x + W * y) (nI g)))) (h0 : ¬ okG W H bl a0 a1 a2 → post 0 (ss_i u 0 0)) : wp_M_given a0 a1 a2 u post := by
  obtain ⟨w1, w2, w3, w4, ew, eh, hb⟩ := id hG
  have hG0 : rG W H bl (sg_i (ss_i u 0 0) 1) (sg_i (ss_i u 0 0) 2) (sg_a (ss_i u 0 0) 0) := by simp (decide := true) only [sx_il, sx_ia, sx_ib, sy_i, sz_i, sx_li, sx_la, sx_lb, sy_l, sz_l, sx_ai, sx_al, sx_ab, sy_a, sz_a, sx_bi, sx_bl, sx_ba, sy_b, sz_b]; exact hG
  refine sp_M_isOpen hG0 (fun x y o e1 e2 => ?_) (fun q => ⟨fun _ => h0 ?_, fun z => absurd rfl z⟩)
  · obtain ⟨hx, hy, -⟩ := opn_iff.mp o
    have hlt := cell_lt hx hy
    have h36 := WH_le w2 w4
    have fin : ∀ g : Nat, (g = 0 ∨ 97 ≤ g ∧ g ≤ 122) → a2 = nI g → wp_M_given_27 post a0 a1 a2 (ss_i u 0 0) := by
      intro g hg eg
      unfold wp_M_given_27
      simp (decide := true) only [sx_il, sx_ia, sx_ib, sy_i, sz_i, sx_li, sx_la, sx_lb, sy_l, sz_l, sx_ai, sx_al, sx_ab, sy_a, sz_a, sx_bi, sx_bl, sx_ba, sy_b, sz_b]
      have e5 : sg_i u 1 * a1 + a0 = nI (x + W * y) := by rw [ew, e1, e2, pk_mul, nI_add, Nat.add_comm]
      rw [e5, nI_clamp (n := x + W * y) (by omega), eg]
      exact ⟨pk_in (x + W * y) 36 (by omega), h1 x y g o e1 e2 hg eg⟩
    refine ⟨fun z => absurd z (by decide), fun _ => ⟨fun z => fin 0 (Or.inl rfl) z, fun z => sp_M_isLetter (fun g g1 g2 eg => ⟨fun z => absurd z (by decide), fun _ => fin g (Or.inr ⟨g1, g2⟩) eg⟩) (fun q => ⟨fun _ => h0 ?_, fun z => absurd rfl z⟩)⟩⟩
    rintro ⟨x', y', g, -, -, -, hg, eg⟩
    rcases hg with rfl | ⟨g1, g2⟩
    · exact z eg
    · exact q ⟨g, g1, g2, eg⟩
  · rintro ⟨x', y', g, o, e3, e4, -⟩
    exact q x' y' o e3 e4
theorem sp_G_hasSlot {ns : Nat} {a0 : Int32} {u : zz_St} {post : Int32 → zz_St → Prop} (hn : sg_i u 3 = nI ns) (h24 : ns ≤ 24) (h1 : ∀ k : Nat, k < ns → a0 = nI k → post 1 u) (h0 : (∀ k : Nat, k < ns → a0 = nI k → False) → post 0 u) : wp_G_hasSlot a0 u post := by
  unfold wp_G_hasSlot
  rw [hn]
  rcases nI_cases a0 ns (by omega) with ⟨k, hk, rfl⟩ | hk
  · exact ⟨fun c => absurd c (nI_pos (by omega)), fun _ => ⟨fun c => absurd c (nI_ge hk (by omega)), fun _ => h1 k hk rfl⟩⟩
  · have z : post 0 u := h0 (fun k' q1 e1 => by
      subst e1
      rcases hk with q | q
      · exact nI_pos (by omega) q
      · exact nI_ge q1 (by omega) q)
    exact ⟨fun _ => z, fun c => ⟨fun _ => z, fun c2 => absurd hk (by rintro (q | q) <;> contradiction)⟩⟩
theorem sp_M_isSlot {ns : Nat} {a0 : Int32} {u : zz_St} {post : Int32 → zz_St → Prop} (hn : sg_i u 5 = nI ns) (h24 : ns ≤ 24) (h1 : ∀ k : Nat, k < ns → a0 = nI k → post 1 u) (h0 : (∀ k : Nat, k < ns → a0 = nI k → False) → post 0 u) : wp_M_isSlot a0 u post := by
  unfold wp_M_isSlot
  rw [hn]
  rcases nI_cases a0 ns (by omega) with ⟨k, hk, rfl⟩ | hk
  · exact ⟨fun c => absurd c (nI_pos (by omega)), fun _ => ⟨fun c => absurd c (nI_ge hk (by omega)), fun _ => h1 k hk rfl⟩⟩
  · have z : post 0 u := h0 (fun k' q1 e1 => by
      subst e1
      rcases hk with q | q
      · exact nI_pos (by omega) q
      · exact nI_ge q1 (by omega) q)
    exact ⟨fun _ => z, fun c => ⟨fun _ => z, fun c2 => absurd hk (by rintro (q | q) <;> contradiction)⟩⟩
theorem sp_L_hasWord {n : Nat} {a0 : Int32} {u : zz_St} {post : Int32 → zz_St → Prop} (hn : sg_i u 4 = nI n) (h80 : n ≤ 80) (h1 : ∀ k : Nat, k < n → a0 = nI k → post 1 u) (h0 : (∀ k : Nat, k < n → a0 = nI k → False) → post 0 u) : wp_L_hasWord a0 u post := by
  unfold wp_L_hasWord
  rw [hn]
  rcases nI_cases a0 n (by omega) with ⟨k, hk, rfl⟩ | hk
  · exact ⟨fun c => absurd c (nI_pos (by omega)), fun _ => ⟨fun c => absurd c (nI_ge hk (by omega)), fun _ => h1 k hk rfl⟩⟩
  · have z : post 0 u := h0 (fun k' q1 e1 => by
      subst e1
      rcases hk with q | q
      · exact nI_pos (by omega) q
      · exact nI_ge q1 (by omega) q)
    exact ⟨fun _ => z, fun c => ⟨fun _ => z, fun c2 => absurd hk (by rintro (q | q) <;> contradiction)⟩⟩
def okT (S : List (Nat × Nat × Nat)) (n : Nat) (len : Nat → Nat) (a0 a1 : Int32) : Prop := ∃ (k : Nat) (e : Nat × Nat × Nat) (o : Option Nat), S[k]? = some e ∧ a0 = nI k ∧ a1 = oI o ∧ ∀ w, o = some w → w < n ∧ len w = e.2.1
theorem sp_X_theme {S : List (Nat × Nat × Nat)} {n : Nat} {len : Nat → Nat} {a0 a1 : Int32} {u : zz_St} {post : Int32 → zz_St → Prop} (hS : sg_i u 3 = nI S.length) (h24 : S.length ≤ 24) (hP : hasP S (sg_a u 2) (sg_a u 3) (sg_a u 4)) (h6 : ∀ e ∈ S, e.2.1 ≤ 6) (hn : sg_i u 4 = nI n) (h80 : n ≤ 80) (hl : ∀ w, w < n → sg_a u 9 w = nI (len w) ∧ len w ≤ 6)
    (h1 : ∀ (k : Nat) (e : Nat × Nat × Nat) (o : Option Nat), S[k]? = some e → a0 = nI k → a1 = oI o → (∀ w, o = some w → w < n ∧ len w = e.2.1) → post 1 (ss_a u 5 (upd (sg_a u 5) k (oI o)))) (h0 : ¬ okT S n len a0 a1 → post 0 u) : wp_X_theme a0 a1 u post := by
  refine sp_G_hasSlot hS h24 (fun k hk ek => ⟨fun z => absurd z (by decide), fun _ => ?_⟩) (fun q => ⟨fun _ => h0 ?_, fun z => absurd rfl z⟩)
  · obtain ⟨e, he⟩ : ∃ e, S[k]? = some e := ⟨_, List.getElem?_eq_getElem hk⟩
    obtain ⟨p2, p3, p4⟩ := hP k e he
    have he6 := h6 e (List.mem_of_getElem? he)
    have fin : ∀ o : Option Nat, a1 = oI o → (∀ w, o = some w → w < n ∧ len w = e.2.1) → wp_X_theme_52 post a0 a1 u := by
      intro o eo ho
      unfold wp_X_theme_52
      have := h1 k e o he ek eo ho
      rw [ek, nI_clamp (n := k) (by omega), eo]
      exact ⟨pk_in k 24 (by omega), this⟩
    refine ⟨fun z => fin none z (fun w q => by cases q), fun z => ?_⟩
    refine sp_L_hasWord hn h80 (fun w hw ew => ⟨fun z => absurd z (by decide), fun _ => ?_⟩) (fun q => ⟨fun _ => h0 ?_, fun z => absurd rfl z⟩)
    · obtain ⟨l1, l2⟩ := hl w hw
      have ek' := ek
      rw [show a1.toNatClampNeg = w from by rw [ew]; exact nI_clamp (by omega), show a0.toNatClampNeg = k from by rw [ek]; exact nI_clamp (by omega), l1, p3]
      refine ⟨by rw [ew]; exact pk_in w 80 (by omega), by rw [ek]; exact pk_in k 24 (by omega), ?_⟩
      refine pk_eq (len w) e.2.1 (fun c => fin (some w) ew (fun w' q => by cases q; exact ⟨hw, c⟩)) (fun c => h0 ?_)
      rintro ⟨k', e', o, s1, s2, s3, s4⟩
      have hk' : k' < S.length := (List.getElem?_eq_some_iff.mp s1).1
      have q1 : k = k' := nI_inj (by omega) (by omega) (ek.symm.trans s2)
      subst q1
      rw [he] at s1
      cases s1
      cases o with
      | none => exact z s3
      | some w' =>
        have := s4 w' rfl
        have q2 : w = w' := nI_inj (by omega) (by omega) (ew.symm.trans s3)
        subst q2
        exact c this.2
    · rintro ⟨k', e', o, s1, s2, s3, s4⟩
      cases o with
      | none => exact z s3
      | some w' => exact q w' (s4 w' rfl).1 s3
  · rintro ⟨k', e', o, s1, s2, -⟩
    exact q k' (List.getElem?_eq_some_iff.mp s1).1 s2
