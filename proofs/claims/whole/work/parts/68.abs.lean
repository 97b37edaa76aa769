def AS : Type := (Nat) × (Nat) × (Nat → Nat) × (Nat) × (Nat → Nat) × (Nat → Nat → Nat) × (Nat → Nat) × (Nat) × (Nat → Nat) × (Nat → Nat) × (Nat → Option Nat) × (Option (Nat → Nat)) × (Nat) × (Nat)
def mkA (W : Nat) (H : Nat) (bl : Nat → Nat) (n : Nat) (len : Nat → Nat) (lt : Nat → Nat → Nat) (sc : Nat → Nat) (cn : Nat) (cl : Nat → Nat) (gv : Nat → Nat) (th : Nat → Option Nat) (fd : Option (Nat → Nat)) (st : Nat) (mn : Nat) : AS := (W, H, bl, n, len, lt, sc, cn, cl, gv, th, fd, st, mn)
def AS.W (A : AS) : Nat := A.1
def AS.H (A : AS) : Nat := A.2.1
def AS.bl (A : AS) : Nat → Nat := A.2.2.1
def AS.n (A : AS) : Nat := A.2.2.2.1
def AS.len (A : AS) : Nat → Nat := A.2.2.2.2.1
def AS.lt (A : AS) : Nat → Nat → Nat := A.2.2.2.2.2.1
def AS.sc (A : AS) : Nat → Nat := A.2.2.2.2.2.2.1
def AS.cn (A : AS) : Nat := A.2.2.2.2.2.2.2.1
def AS.cl (A : AS) : Nat → Nat := A.2.2.2.2.2.2.2.2.1
def AS.gv (A : AS) : Nat → Nat := A.2.2.2.2.2.2.2.2.2.1
def AS.th (A : AS) : Nat → Option Nat := A.2.2.2.2.2.2.2.2.2.2.1
def AS.fd (A : AS) : Option (Nat → Nat) := A.2.2.2.2.2.2.2.2.2.2.2.1
def AS.st (A : AS) : Nat := A.2.2.2.2.2.2.2.2.2.2.2.2.1
def AS.mn (A : AS) : Nat := A.2.2.2.2.2.2.2.2.2.2.2.2.2
def AS.S (A : AS) : List (Nat × Nat × Nat) := slS A.W A.H A.bl
def sumF (sc : Nat → Nat) (F : Nat → Nat) : Nat → Nat
  | 0 => 0
  | k + 1 => sumF sc F k + sc (F k)
def okF (A : AS) (F : Nat → Nat) : Prop := (∀ (k : Nat) (e : Nat × Nat × Nat), A.S[k]? = some e → F k < A.n ∧ A.len (F k) = e.2.1) ∧ (∀ (k : Nat) (e : Nat × Nat × Nat) (k' : Nat) (e' : Nat × Nat × Nat) (p p' : Nat), A.S[k]? = some e → A.S[k']? = some e' → p < e.2.1 → p' < e'.2.1 → celp A.W e p = celp A.W e' p' → A.lt (F k) p = A.lt (F k') p')
def VA (A : AS) : Prop := (∀ (k : Nat) (e : Nat × Nat × Nat) (w : Nat), A.S[k]? = some e → A.th k = some w → w < A.n ∧ A.len w = e.2.1) ∧ (∀ F, A.fd = some F → okF A F) ∧ A.st ≤ 20000 ∧ A.mn ≤ 20001
def cG (A : AS) (u : zz_St) : Prop := rG A.W A.H A.bl (sg_i u 0) (sg_i u 1) (sg_a u 0) ∧ sg_i u 2 = nI (A.W * A.H) ∧ sg_i u 3 = nI A.S.length ∧ hasP A.S (sg_a u 2) (sg_a u 3) (sg_a u 4) ∧ thr A.W A.S (sg_a u 6) (sg_a u 7)
def cW (A : AS) (u : zz_St) : Prop := rW A.n A.len A.lt A.sc (sg_i u 4) (sg_a u 9) (sg_a u 10) (sg_a u 13) ∧ rQ A.n A.len A.lt A.sc (sg_a u 11) (sg_a u 12) (sg_b u 0) (sg_b u 1) (sg_b u 2) (sg_b u 3)
def cK (A : AS) (u : zz_St) : Prop := rK A.cn A.cl (sg_i u 5) (sg_a u 14)
def cV (A : AS) (u : zz_St) : Prop := rV A.gv (sg_a u 1)
def cT (A : AS) (u : zz_St) : Prop := ∀ k, k < A.S.length → sg_a u 5 k = oI (A.th k)
def CB (A : AS) (u : zz_St) : Prop := cG A u ∧ cW A u ∧ cK A u ∧ cV A u ∧ cT A u
def fdC (A : AS) (fd : Option (Nat → Nat)) (u : zz_St) : Prop := (fd = none → sg_i u 6 = -1) ∧ ∀ F, fd = some F → sg_i u 6 = nI (sumF A.sc F A.S.length) ∧ ∀ k, k < A.S.length → sg_a u 15 k = nI (F k)
def RC (A : AS) (u : zz_St) : Prop := CB A u ∧ fdC A A.fd u ∧ sg_i u 11 = nI A.st ∧ sg_i u 12 = nI A.mn
def MB (A : AS) (u : zz_St) : Prop := (rG A.W A.H A.bl (sg_i u 1) (sg_i u 2) (sg_a u 0) ∧ sg_i u 5 = nI A.S.length ∧ sg_i u 6 = nI (preS A.W A.H A.bl 0 (A.W * A.H)).length ∧ hasW A.W A.S (sg_a u 6) (sg_a u 7) (sg_a u 8)) ∧ rW A.n A.len A.lt A.sc (sg_i u 4) (sg_a u 3) (sg_a u 5) (sg_a u 4) ∧ rK A.cn A.cl (sg_i u 3) (sg_a u 2) ∧ rV A.gv (sg_a u 1) ∧ ∀ k, k < A.S.length → sg_a u 9 k = oI (A.th k)
def fdM (A : AS) (fd : Option (Nat → Nat)) (u : zz_St) : Prop := (fd = none → sg_i u 7 = 0) ∧ ∀ F, fd = some F → sg_i u 7 = 1 ∧ ∀ k, k < A.S.length → sg_a u 11 k = nI (F k)
def RM (A : AS) (u : zz_St) : Prop := MB A u ∧ fdM A A.fd u ∧ sg_i u 8 = nI A.st ∧ sg_i u 9 = nI A.mn
theorem CB_i6 {A : AS} {u : zz_St} {x : Int32} (h : CB A u) : CB A (ss_i u 6 x) := by
  unfold CB cG cW cK cV cT at h ⊢
  simp (decide := true) only [sx_il, sx_ia, sx_ib, sy_i, sz_i, sx_li, sx_la, sx_lb, sy_l, sz_l, sx_ai, sx_al, sx_ab, sy_a, sz_a, sx_bi, sx_bl, sx_ba, sy_b, sz_b]
  exact h
theorem CB_i7 {A : AS} {u : zz_St} {x : Int32} (h : CB A u) : CB A (ss_i u 7 x) := by
  unfold CB cG cW cK cV cT at h ⊢
  simp (decide := true) only [sx_il, sx_ia, sx_ib, sy_i, sz_i, sx_li, sx_la, sx_lb, sy_l, sz_l, sx_ai, sx_al, sx_ab, sy_a, sz_a, sx_bi, sx_bl, sx_ba, sy_b, sz_b]
  exact h
theorem CB_i8 {A : AS} {u : zz_St} {x : Int32} (h : CB A u) : CB A (ss_i u 8 x) := by
  unfold CB cG cW cK cV cT at h ⊢
  simp (decide := true) only [sx_il, sx_ia, sx_ib, sy_i, sz_i, sx_li, sx_la, sx_lb, sy_l, sz_l, sx_ai, sx_al, sx_ab, sy_a, sz_a, sx_bi, sx_bl, sx_ba, sy_b, sz_b]
  exact h
theorem CB_i9 {A : AS} {u : zz_St} {x : Int32} (h : CB A u) : CB A (ss_i u 9 x) := by
  unfold CB cG cW cK cV cT at h ⊢
  simp (decide := true) only [sx_il, sx_ia, sx_ib, sy_i, sz_i, sx_li, sx_la, sx_lb, sy_l, sz_l, sx_ai, sx_al, sx_ab, sy_a, sz_a, sx_bi, sx_bl, sx_ba, sy_b, sz_b]
  exact h
theorem CB_i10 {A : AS} {u : zz_St} {x : Int32} (h : CB A u) : CB A (ss_i u 10 x) := by
  unfold CB cG cW cK cV cT at h ⊢
  simp (decide := true) only [sx_il, sx_ia, sx_ib, sy_i, sz_i, sx_li, sx_la, sx_lb, sy_l, sz_l, sx_ai, sx_al, sx_ab, sy_a, sz_a, sx_bi, sx_bl, sx_ba, sy_b, sz_b]
  exact h
theorem CB_i11 {A : AS} {u : zz_St} {x : Int32} (h : CB A u) : CB A (ss_i u 11 x) := by
  unfold CB cG cW cK cV cT at h ⊢
  simp (decide := true) only [sx_il, sx_ia, sx_ib, sy_i, sz_i, sx_li, sx_la, sx_lb, sy_l, sz_l, sx_ai, sx_al, sx_ab, sy_a, sz_a, sx_bi, sx_bl, sx_ba, sy_b, sz_b]
  exact h
theorem CB_i12 {A : AS} {u : zz_St} {x : Int32} (h : CB A u) : CB A (ss_i u 12 x) := by
  unfold CB cG cW cK cV cT at h ⊢
  simp (decide := true) only [sx_il, sx_ia, sx_ib, sy_i, sz_i, sx_li, sx_la, sx_lb, sy_l, sz_l, sx_ai, sx_al, sx_ab, sy_a, sz_a, sx_bi, sx_bl, sx_ba, sy_b, sz_b]
  exact h
theorem CB_l0 {A : AS} {u : zz_St} {x : Int64} (h : CB A u) : CB A (ss_l u 0 x) := by
  unfold CB cG cW cK cV cT at h ⊢
  simp (decide := true) only [sx_il, sx_ia, sx_ib, sy_i, sz_i, sx_li, sx_la, sx_lb, sy_l, sz_l, sx_ai, sx_al, sx_ab, sy_a, sz_a, sx_bi, sx_bl, sx_ba, sy_b, sz_b]
  exact h
theorem CB_l1 {A : AS} {u : zz_St} {x : Int64} (h : CB A u) : CB A (ss_l u 1 x) := by
  unfold CB cG cW cK cV cT at h ⊢
  simp (decide := true) only [sx_il, sx_ia, sx_ib, sy_i, sz_i, sx_li, sx_la, sx_lb, sy_l, sz_l, sx_ai, sx_al, sx_ab, sy_a, sz_a, sx_bi, sx_bl, sx_ba, sy_b, sz_b]
  exact h
theorem CB_a8 {A : AS} {u : zz_St} {x : Nat → Int32} (h : CB A u) : CB A (ss_a u 8 x) := by
  unfold CB cG cW cK cV cT at h ⊢
  simp (decide := true) only [sx_il, sx_ia, sx_ib, sy_i, sz_i, sx_li, sx_la, sx_lb, sy_l, sz_l, sx_ai, sx_al, sx_ab, sy_a, sz_a, sx_bi, sx_bl, sx_ba, sy_b, sz_b]
  exact h
theorem CB_a15 {A : AS} {u : zz_St} {x : Nat → Int32} (h : CB A u) : CB A (ss_a u 15 x) := by
  unfold CB cG cW cK cV cT at h ⊢
  simp (decide := true) only [sx_il, sx_ia, sx_ib, sy_i, sz_i, sx_li, sx_la, sx_lb, sy_l, sz_l, sx_ai, sx_al, sx_ab, sy_a, sz_a, sx_bi, sx_bl, sx_ba, sy_b, sz_b]
  exact h
theorem CB_a16 {A : AS} {u : zz_St} {x : Nat → Int32} (h : CB A u) : CB A (ss_a u 16 x) := by
  unfold CB cG cW cK cV cT at h ⊢
  simp (decide := true) only [sx_il, sx_ia, sx_ib, sy_i, sz_i, sx_li, sx_la, sx_lb, sy_l, sz_l, sx_ai, sx_al, sx_ab, sy_a, sz_a, sx_bi, sx_bl, sx_ba, sy_b, sz_b]
  exact h
theorem CB_b4 {A : AS} {u : zz_St} {x : Nat → Int64} (h : CB A u) : CB A (ss_b u 4 x) := by
  unfold CB cG cW cK cV cT at h ⊢
  simp (decide := true) only [sx_il, sx_ia, sx_ib, sy_i, sz_i, sx_li, sx_la, sx_lb, sy_l, sz_l, sx_ai, sx_al, sx_ab, sy_a, sz_a, sx_bi, sx_bl, sx_ba, sy_b, sz_b]
  exact h
theorem CB_b5 {A : AS} {u : zz_St} {x : Nat → Int64} (h : CB A u) : CB A (ss_b u 5 x) := by
  unfold CB cG cW cK cV cT at h ⊢
  simp (decide := true) only [sx_il, sx_ia, sx_ib, sy_i, sz_i, sx_li, sx_la, sx_lb, sy_l, sz_l, sx_ai, sx_al, sx_ab, sy_a, sz_a, sx_bi, sx_bl, sx_ba, sy_b, sz_b]
  exact h
theorem MB_i0 {A : AS} {u : zz_St} {x : Int32} (h : MB A u) : MB A (ss_i u 0 x) := by
  unfold MB at h ⊢
  simp (decide := true) only [sx_il, sx_ia, sx_ib, sy_i, sz_i, sx_li, sx_la, sx_lb, sy_l, sz_l, sx_ai, sx_al, sx_ab, sy_a, sz_a, sx_bi, sx_bl, sx_ba, sy_b, sz_b]
  exact h
theorem MB_i7 {A : AS} {u : zz_St} {x : Int32} (h : MB A u) : MB A (ss_i u 7 x) := by
  unfold MB at h ⊢
  simp (decide := true) only [sx_il, sx_ia, sx_ib, sy_i, sz_i, sx_li, sx_la, sx_lb, sy_l, sz_l, sx_ai, sx_al, sx_ab, sy_a, sz_a, sx_bi, sx_bl, sx_ba, sy_b, sz_b]
  exact h
theorem MB_i8 {A : AS} {u : zz_St} {x : Int32} (h : MB A u) : MB A (ss_i u 8 x) := by
  unfold MB at h ⊢
  simp (decide := true) only [sx_il, sx_ia, sx_ib, sy_i, sz_i, sx_li, sx_la, sx_lb, sy_l, sz_l, sx_ai, sx_al, sx_ab, sy_a, sz_a, sx_bi, sx_bl, sx_ba, sy_b, sz_b]
  exact h
theorem MB_i9 {A : AS} {u : zz_St} {x : Int32} (h : MB A u) : MB A (ss_i u 9 x) := by
  unfold MB at h ⊢
  simp (decide := true) only [sx_il, sx_ia, sx_ib, sy_i, sz_i, sx_li, sx_la, sx_lb, sy_l, sz_l, sx_ai, sx_al, sx_ab, sy_a, sz_a, sx_bi, sx_bl, sx_ba, sy_b, sz_b]
  exact h
theorem MB_a10 {A : AS} {u : zz_St} {x : Nat → Int32} (h : MB A u) : MB A (ss_a u 10 x) := by
  unfold MB at h ⊢
  simp (decide := true) only [sx_il, sx_ia, sx_ib, sy_i, sz_i, sx_li, sx_la, sx_lb, sy_l, sz_l, sx_ai, sx_al, sx_ab, sy_a, sz_a, sx_bi, sx_bl, sx_ba, sy_b, sz_b]
  exact h
theorem MB_a11 {A : AS} {u : zz_St} {x : Nat → Int32} (h : MB A u) : MB A (ss_a u 11 x) := by
  unfold MB at h ⊢
  simp (decide := true) only [sx_il, sx_ia, sx_ib, sy_i, sz_i, sx_li, sx_la, sx_lb, sy_l, sz_l, sx_ai, sx_al, sx_ab, sy_a, sz_a, sx_bi, sx_bl, sx_ba, sy_b, sz_b]
  exact h
theorem MB_a12 {A : AS} {u : zz_St} {x : Nat → Int32} (h : MB A u) : MB A (ss_a u 12 x) := by
  unfold MB at h ⊢
  simp (decide := true) only [sx_il, sx_ia, sx_ib, sy_i, sz_i, sx_li, sx_la, sx_lb, sy_l, sz_l, sx_ai, sx_al, sx_ab, sy_a, sz_a, sx_bi, sx_bl, sx_ba, sy_b, sz_b]
  exact h
theorem MB_a13 {A : AS} {u : zz_St} {x : Nat → Int32} (h : MB A u) : MB A (ss_a u 13 x) := by
  unfold MB at h ⊢
  simp (decide := true) only [sx_il, sx_ia, sx_ib, sy_i, sz_i, sx_li, sx_la, sx_lb, sy_l, sz_l, sx_ai, sx_al, sx_ab, sy_a, sz_a, sx_bi, sx_bl, sx_ba, sy_b, sz_b]
  exact h
theorem MB_a14 {A : AS} {u : zz_St} {x : Nat → Int32} (h : MB A u) : MB A (ss_a u 14 x) := by
  unfold MB at h ⊢
  simp (decide := true) only [sx_il, sx_ia, sx_ib, sy_i, sz_i, sx_li, sx_la, sx_lb, sy_l, sz_l, sx_ai, sx_al, sx_ab, sy_a, sz_a, sx_bi, sx_bl, sx_ba, sy_b, sz_b]
  exact h
theorem MB_a15 {A : AS} {u : zz_St} {x : Nat → Int32} (h : MB A u) : MB A (ss_a u 15 x) := by
  unfold MB at h ⊢
  simp (decide := true) only [sx_il, sx_ia, sx_ib, sy_i, sz_i, sx_li, sx_la, sx_lb, sy_l, sz_l, sx_ai, sx_al, sx_ab, sy_a, sz_a, sx_bi, sx_bl, sx_ba, sy_b, sz_b]
  exact h
theorem MB_a16 {A : AS} {u : zz_St} {x : Nat → Int32} (h : MB A u) : MB A (ss_a u 16 x) := by
  unfold MB at h ⊢
  simp (decide := true) only [sx_il, sx_ia, sx_ib, sy_i, sz_i, sx_li, sx_la, sx_lb, sy_l, sz_l, sx_ai, sx_al, sx_ab, sy_a, sz_a, sx_bi, sx_bl, sx_ba, sy_b, sz_b]
  exact h
theorem MB_a17 {A : AS} {u : zz_St} {x : Nat → Int32} (h : MB A u) : MB A (ss_a u 17 x) := by
  unfold MB at h ⊢
  simp (decide := true) only [sx_il, sx_ia, sx_ib, sy_i, sz_i, sx_li, sx_la, sx_lb, sy_l, sz_l, sx_ai, sx_al, sx_ab, sy_a, sz_a, sx_bi, sx_bl, sx_ba, sy_b, sz_b]
  exact h
theorem S_len {A : AS} {iw ih : Int32} {a : Nat → Int32} (hG : rG A.W A.H A.bl iw ih a) : A.S.length ≤ 24 := slS_len hG.2.1 hG.2.2.2.1
theorem S_e {A : AS} {iw ih : Int32} {a : Nat → Int32} (hG : rG A.W A.H A.bl iw ih a) {k : Nat} {e : Nat × Nat × Nat} (h : A.S[k]? = some e) : k < A.S.length ∧ 2 ≤ e.2.1 ∧ e.2.1 ≤ 6 ∧ e.2.2 < 2 ∧ ∀ p, p < e.2.1 → celp A.W e p < 36 := by
  obtain ⟨w1, w2, w3, w4, -⟩ := hG
  have hk : k < A.S.length := by
    rcases Nat.lt_or_ge k A.S.length with z | z
    · exact z
    · rw [List.getElem?_eq_none z] at h; cases h
  obtain ⟨d, c, hd, hs, rfl⟩ := slS_from (W := A.W) (H := A.H) (bl := A.bl) e (List.mem_of_getElem? h)
  have h36 := WH_le w2 w4
  refine ⟨hk, (isSt_spec hs).1, rlen_le _ _ _ _ _ _ _, hd, fun p hp => ?_⟩
  have := celp_lt w2 w4 hd hs hp
  omega
theorem S_get {A : AS} {k : Nat} (h : k < A.S.length) : ∃ e, A.S[k]? = some e := ⟨A.S[k], List.getElem?_eq_getElem h⟩
