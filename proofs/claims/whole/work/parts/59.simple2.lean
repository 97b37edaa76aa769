def hasW (W : Nat) (P : List (Nat × Nat × Nat)) (f6 f7 f8 : Nat → Int32) : Prop := ∀ (k : Nat) (e : Nat × Nat × Nat), P[k]? = some e → f6 k = nI e.1 ∧ f7 k = nI e.2.1 ∧ f8 k = nI (if e.2.2 = 0 then 1 else W)
theorem sp_M_theme {W : Nat} {S : List (Nat × Nat × Nat)} {n : Nat} {len : Nat → Nat} {a0 a1 : Int32} {u : zz_St} {post : Int32 → zz_St → Prop} (hS : sg_i u 5 = nI S.length) (h24 : S.length ≤ 24) (hP : hasW W S (sg_a u 6) (sg_a u 7) (sg_a u 8)) (h6 : ∀ e ∈ S, e.2.1 ≤ 6) (hn : sg_i u 4 = nI n) (h80 : n ≤ 80) (hl : ∀ w, w < n → sg_a u 3 w = nI (len w) ∧ len w ≤ 6)
    (h1 : ∀ (k : Nat) (e : Nat × Nat × Nat) (o : Option Nat), S[k]? = some e → a0 = nI k → a1 = oI o → (∀ w, o = some w → w < n ∧ len w = e.2.1) → post 1 (ss_a (ss_i u 0 0) 9 (upd (sg_a u 9) k (oI o)))) (h0 : ¬ okT S n len a0 a1 → post 0 (ss_i u 0 0)) : wp_M_theme a0 a1 u post := by
  have hS0 : sg_i (ss_i u 0 0) 5 = nI S.length := by simp (decide := true) only [sx_il, sx_ia, sx_ib, sy_i, sz_i, sx_li, sx_la, sx_lb, sy_l, sz_l, sx_ai, sx_al, sx_ab, sy_a, sz_a, sx_bi, sx_bl, sx_ba, sy_b, sz_b]; exact hS
  refine sp_M_isSlot hS0 h24 (fun k hk ek => ⟨fun z => absurd z (by decide), fun _ => ?_⟩) (fun q => ⟨fun _ => h0 ?_, fun z => absurd rfl z⟩)
  · obtain ⟨e, he⟩ : ∃ e, S[k]? = some e := ⟨_, List.getElem?_eq_getElem hk⟩
    obtain ⟨p2, p3, p4⟩ := hP k e he
    have he6 := h6 e (List.mem_of_getElem? he)
    have fin : ∀ o : Option Nat, a1 = oI o → (∀ w, o = some w → w < n ∧ len w = e.2.1) → wp_M_theme_47 post a0 a1 (ss_i u 0 0) := by
      intro o eo ho
      unfold wp_M_theme_47
      have := h1 k e o he ek eo ho
      simp (decide := true) only [sx_il, sx_ia, sx_ib, sy_i, sz_i, sx_li, sx_la, sx_lb, sy_l, sz_l, sx_ai, sx_al, sx_ab, sy_a, sz_a, sx_bi, sx_bl, sx_ba, sy_b, sz_b]
      rw [ek, nI_clamp (n := k) (by omega), eo]
      exact ⟨pk_in k 36 (by omega), this⟩
    refine ⟨fun z => fin none z (fun w q => by cases q), fun z => ?_⟩
    have out : (∀ w : Nat, w < n → a1 = nI w → False) → post 0 (ss_i u 0 0) := fun q => h0 (by
      rintro ⟨k', e', o, s1, s2, s3, s4⟩
      cases o with
      | none => exact z s3
      | some w' => exact q w' (s4 w' rfl).1 s3)
    simp (decide := true) only [sx_il, sx_ia, sx_ib, sy_i, sz_i, sx_li, sx_la, sx_lb, sy_l, sz_l, sx_ai, sx_al, sx_ab, sy_a, sz_a, sx_bi, sx_bl, sx_ba, sy_b, sz_b]
    rw [hn]
    rcases nI_cases a1 n (by omega) with ⟨w, hw, ew⟩ | hw
    · obtain ⟨l1, l2⟩ := hl w hw
      refine ⟨fun c => absurd (ew ▸ c) (nI_pos (by omega)), fun _ => ⟨fun c => absurd (ew ▸ c) (nI_ge hw (by omega)), fun _ => ?_⟩⟩
      rw [show a1.toNatClampNeg = w from by rw [ew]; exact nI_clamp (by omega), show a0.toNatClampNeg = k from by rw [ek]; exact nI_clamp (by omega), l1, p3]
      refine ⟨by rw [ew]; exact pk_in w 80 (by omega), by rw [ek]; exact pk_in k 36 (by omega), ?_⟩
      refine pk_eq (len w) e.2.1 (fun c => fin (some w) ew (fun w' q => by cases q; exact ⟨hw, c⟩)) (fun c => h0 ?_)
      rintro ⟨k', e', o, s1, s2, s3, s4⟩
      have hk' : k' < S.length := (List.getElem?_eq_some_iff.mp s1).1
      have q1 : k = k' := nI_inj (by omega) (by omega) (ek.symm.trans s2)
      subst q1
      rw [he] at s1
      cases s1
      cases o with
      | none => exact z s3
      | some w' =>
        have := s4 w' rfl
        have q2 : w = w' := nI_inj (by omega) (by omega) (ew.symm.trans s3)
        subst q2
        exact c this.2
    · have zz : post 0 (ss_i u 0 0) := out (fun w' q1 e1 => by
        subst e1
        rcases hw with q | q
        · exact nI_pos (by omega) q
        · exact nI_ge q1 (by omega) q)
      exact ⟨fun _ => zz, fun c => ⟨fun _ => zz, fun c2 => absurd hw (by rintro (q | q) <;> contradiction)⟩⟩
  · rintro ⟨k', e', o, s1, s2, -⟩
    exact q k' (List.getElem?_eq_some_iff.mp s1).1 s2
def blU (bl : Nat → Nat) (c b : Nat) : Nat → Nat := fun i => if i = c then b else bl i
theorem rG_black {W H : Nat} {bl : Nat → Nat} {iw ih : Int32} {a : Nat → Int32} {c b : Nat} (hG : rG W H bl iw ih a) (hb : b ≤ 1) : rG W H (blU bl c b) iw ih (upd a c (nI b)) := by
  obtain ⟨w1, w2, w3, w4, ew, eh, h⟩ := hG
  refine ⟨w1, w2, w3, w4, ew, eh, fun i hi => ?_⟩
  unfold upd blU
  by_cases e : i = c
  · rw [if_pos e, if_pos e]; exact ⟨rfl, hb⟩
  · rw [if_neg e, if_neg e]; exact h i hi
def okB (W H : Nat) (bl : Nat → Nat) (a0 a1 : Int32) (b : Nat) : Prop := ∃ x y : Nat, x < W ∧ y < H ∧ a0 = nI x ∧ a1 = nI y ∧ bl (x + W * y) ≠ b
theorem sp_X_black {W H : Nat} {bl : Nat → Nat} {a0 a1 : Int32} {b : Nat} {u : zz_St} {post : Int32 → zz_St → Prop} (hb1 : b ≤ 1) (hG : rG W H bl (sg_i u 0) (sg_i u 1) (sg_a u 0))
    (h1 : ∀ x y : Nat, x < W → y < H → a0 = nI x → a1 = nI y → bl (x + W * y) ≠ b → ∀ f2 f3 f4 f6 f7 : Nat → Int32, hasP (slS W H (blU bl (x + W * y) b)) f2 f3 f4 → thr W (slS W H (blU bl (x + W * y) b)) f6 f7 → post 1 (ss_i (stS (ss_a (ss_a (ss_a u 0 (upd (sg_a u 0) (x + W * y) (nI b))) 1 (flI 0 36 (sg_a u 1))) 5 (flI (-1) 24 (sg_a u 5))) (slS W H (blU bl (x + W * y) b)).length f2 f3 f4 f6 f7) 6 (-1)))
    (h0 : ¬ okB W H bl a0 a1 b → post 0 u) : wp_X_black a0 a1 (nI b) u post := by
  obtain ⟨w1, w2, w3, w4, ew, eh, hb⟩ := id hG
  refine sp_G_cellAt hG (fun x y hx hy e1 e2 => ?_) (fun q => ⟨fun _ => h0 ?_, fun z => absurd rfl z⟩)
  · have hlt := cell_lt hx hy
    have h36 := WH_le w2 w4
    have h5 := (hb (x + W * y) (by omega)).2
    refine ⟨fun c => absurd c (nI_nm1 (by omega)), fun _ => ⟨pk_in (x + W * y) 36 (by omega), ?_⟩⟩
    rw [nI_clamp (n := x + W * y) (by omega), (hb _ (by omega)).1]
    refine pk_eq (bl (x + W * y)) b (fun c => h0 ?_) (fun c => ?_)
    · rintro ⟨x', y', o1, o2, e3, e4, e5⟩
      have q1 : x = x' := nI_inj (by omega) (by omega) (e1.symm.trans e3)
      have q2 : y = y' := nI_inj (by omega) (by omega) (e2.symm.trans e4)
      subst q1; subst q2
      exact e5 c
    · unfold wp_G_paint
      rw [nI_clamp (n := x + W * y) (by omega)]
      refine ⟨pk_in (x + W * y) 36 (by omega), ?_, ?_⟩
      · rcases (show b = 0 ∨ b = 1 by omega) with rfl | rfl
        · exact Or.inl rfl
        · exact Or.inr rfl
      · refine sp_JA_fillI_GgivenAt ?_
        simp (decide := true) only [sx_il, sx_ia, sx_ib, sy_i, sz_i, sx_li, sx_la, sx_lb, sy_l, sz_l, sx_ai, sx_al, sx_ab, sy_a, sz_a, sx_bi, sx_bl, sx_ba, sy_b, sz_b]
        refine sp_G_findSlots (W := W) (H := H) (bl := blU bl (x + W * y) b) ?_ (fun f2 f3 f4 f6 f7 g1 g2 => ?_)
        · simp (decide := true) only [sx_il, sx_ia, sx_ib, sy_i, sz_i, sx_li, sx_la, sx_lb, sy_l, sz_l, sx_ai, sx_al, sx_ab, sy_a, sz_a, sx_bi, sx_bl, sx_ba, sy_b, sz_b]
          exact rG_black hG hb1
        · unfold wp_F_forget
          have := h1 x y hx hy e1 e2 c f2 f3 f4 f6 f7 g1 g2
          simp (decide := true) only [sx_il, sx_ia, sx_ib, sy_i, sz_i, sx_li, sx_la, sx_lb, sy_l, sz_l, sx_ai, sx_al, sx_ab, sy_a, sz_a, sx_bi, sx_bl, sx_ba, sy_b, sz_b]
          exact this
  · rintro ⟨x', y', o1, o2, e3, e4, -⟩
    exact q x' y' o1 o2 e3 e4
theorem sp_M_black {W H : Nat} {bl : Nat → Nat} {a0 a1 : Int32} {b : Nat} {u : zz_St} {post : Int32 → zz_St → Prop} (hb1 : b ≤ 1) (hG : rG W H bl (sg_i u 1) (sg_i u 2) (sg_a u 0))
    (h1 : ∀ x y : Nat, x < W → y < H → a0 = nI x → a1 = nI y → bl (x + W * y) ≠ b → ∀ f6 f7 f8 f9 : Nat → Int32, hasM W (slS W H (blU bl (x + W * y) b)) f6 f7 f8 f9 → post 1 (stM (ss_i (ss_a (ss_a (ss_i u 0 0) 0 (upd (sg_a u 0) (x + W * y) (nI b))) 1 (flI 0 36 (sg_a u 1))) 7 0) (slS W H (blU bl (x + W * y) b)).length (preS W H (blU bl (x + W * y) b) 0 (W * H)).length f6 f7 f8 f9))
    (h0 : ¬ okB W H bl a0 a1 b → post 0 (ss_i u 0 0)) : wp_M_black a0 a1 (nI b) u post := by
  obtain ⟨w1, w2, w3, w4, ew, eh, hb⟩ := id hG
  have hG0 : rG W H bl (sg_i (ss_i u 0 0) 1) (sg_i (ss_i u 0 0) 2) (sg_a (ss_i u 0 0) 0) := by simp (decide := true) only [sx_il, sx_ia, sx_ib, sy_i, sz_i, sx_li, sx_la, sx_lb, sy_l, sz_l, sx_ai, sx_al, sx_ab, sy_a, sz_a, sx_bi, sx_bl, sx_ba, sy_b, sz_b]; exact hG
  refine sp_M_isCell hG0 (fun x y hx hy e1 e2 => ?_) (fun q => ⟨fun _ => h0 ?_, fun z => absurd rfl z⟩)
  · have hlt := cell_lt hx hy
    have h36 := WH_le w2 w4
    have h5 := (hb (x + W * y) (by omega)).2
    have ei : sg_i u 1 * a1 + a0 = nI (x + W * y) := by rw [ew, e1, e2, pk_mul, nI_add, Nat.add_comm]
    simp (decide := true) only [sx_il, sx_ia, sx_ib, sy_i, sz_i, sx_li, sx_la, sx_lb, sy_l, sz_l, sx_ai, sx_al, sx_ab, sy_a, sz_a, sx_bi, sx_bl, sx_ba, sy_b, sz_b]
    rw [ei, nI_clamp (n := x + W * y) (by omega), (hb _ (by omega)).1]
    refine ⟨fun c => absurd c (by decide), fun _ => ⟨pk_in (x + W * y) 36 (by omega), pk_eq (bl (x + W * y)) b (fun c => h0 ?_) (fun c => ⟨pk_in (x + W * y) 36 (by omega), ?_, ?_⟩)⟩⟩
    · rintro ⟨x', y', o1, o2, e3, e4, e5⟩
      have q1 : x = x' := nI_inj (by omega) (by omega) (e1.symm.trans e3)
      have q2 : y = y' := nI_inj (by omega) (by omega) (e2.symm.trans e4)
      subst q1; subst q2
      exact e5 c
    · rcases (show b = 0 ∨ b = 1 by omega) with rfl | rfl
      · exact Or.inl rfl
      · exact Or.inr rfl
    · suffices ∀ t j, j + t = 36 → ∃ m, wp_M_black_50_f post m (nI j) (ss_a (ss_a (ss_i u 0 0) 0 (upd (sg_a u 0) (x + W * y) (nI b))) 1 (flI 0 j (sg_a u 1))) by
        obtain ⟨m, hm⟩ := this 36 0 rfl
        refine ⟨m, ?_⟩
        have e : ss_a (ss_a (ss_i u 0 0) 0 (upd (sg_a u 0) (x + W * y) (nI b))) 1 (flI 0 0 (sg_a u 1)) = ss_a (ss_i u 0 0) 0 (upd (sg_a u 0) (x + W * y) (nI b)) := ss_a_id (ss_a (ss_i u 0 0) 0 (upd (sg_a u 0) (x + W * y) (nI b))) 1
        rw [e] at hm
        exact hm
      intro t
      induction t with
      | zero =>
        intro j hj
        have e : j = 36 := by omega
        subst e
        refine ⟨1, ?_⟩
        show wp_M_black_50 post _ _ _
        unfold wp_M_black_50
        refine pk_le 36 36 (fun _ => ?_) (fun z => absurd z (by omega))
        refine sp_M_findSlots (W := W) (H := H) (bl := blU bl (x + W * y) b) ?_ (fun f6 f7 f8 f9 g1 => h1 x y hx hy e1 e2 c f6 f7 f8 f9 g1)
        simp (decide := true) only [sx_il, sx_ia, sx_ib, sy_i, sz_i, sx_li, sx_la, sx_lb, sy_l, sz_l, sx_ai, sx_al, sx_ab, sy_a, sz_a, sx_bi, sx_bl, sx_ba, sy_b, sz_b]
        exact rG_black hG hb1
      | succ t ih =>
        intro j hj
        obtain ⟨m, hm⟩ := ih (j + 1) (by omega)
        refine ⟨m + 1, ?_⟩
        show wp_M_black_50 post _ _ _
        unfold wp_M_black_50
        simp (decide := true) only [sx_il, sx_ia, sx_ib, sy_i, sz_i, sx_li, sx_la, sx_lb, sy_l, sz_l, sx_ai, sx_al, sx_ab, sy_a, sz_a, sx_bi, sx_bl, sx_ba, sy_b, sz_b]
        refine pk_le 36 j (fun z => absurd z (by omega)) (fun _ => ⟨pk_in j 36 (by omega), ?_⟩)
        rw [nI_clamp (n := j) (by omega), nI_1, so_a, flI_s]
        exact hm
  · rintro ⟨x', y', o1, o2, e3, e4, -⟩
    exact q x' y' o1 o2 e3 e4
