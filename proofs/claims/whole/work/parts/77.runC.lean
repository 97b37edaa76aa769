noncomputable def runA (A : AS) (all : Bool) (m : Nat) : Bool × Sg := srch A all m A.S.length (fun _ => none) (mkG 0 0 none false)
def codeR (s : Sg) : Nat := if s.ran = true then 2 else if s.mn = 0 then 1 else 0
def aftR (A : AS) (s : Sg) : AS := mkA A.W A.H A.bl A.n A.len A.lt A.sc A.cn A.cl A.gv A.th s.fd s.st s.mn
theorem fre_all (n : Nat) : fre (fun _ => none) n = n := by
  have := cntB_lt n n (Nat.le_refl n)
  rw [← cntB_congr (p := fun _ => true) (fun i hi => by rw [decide_eq_true hi])] at this
  exact this
theorem cons_none {A : AS} : cons A (fun _ => none) := fun _ _ _ _ h => by cases h
theorem sumA_none {sc : Nat → Nat} : ∀ {n : Nat}, sumA sc (fun _ => none) n = 0 := by
  intro n
  induction n with
  | zero => rfl
  | succ n ih => rw [sumA, ih, Nat.zero_add]
theorem runA_inv {A : AS} {all : Bool} {m : Nat} (hW : 1 ≤ A.W) : gdS A (runA A all m).2 ∧ (runA A all m).2.st ≤ m ∧ (runA A all m).2.mn ≤ (runA A all m).2.st + 1 := by
  have g0 : gdS A (mkG 0 0 none false) := ⟨fun G h => (by cases h), ⟨fun _ => rfl, fun _ => rfl⟩⟩
  obtain ⟨a1, a2, a3⟩ := srch_inv (A := A) (all := all) (most := m) hW (f := A.S.length) (asg := fun _ => none) (s := mkG 0 0 none false) (fre_all _) cons_none g0 (Nat.zero_le m)
  refine ⟨a1, a2, ?_⟩
  by_cases e : A.S.length = 0
  · unfold runA
    rw [e]
    exact Nat.le_refl 1
  · rw [if_neg e] at a3
    exact Nat.le_trans (a3 (Nat.le_refl 0)) (Nat.le_succ _)
theorem VA_run {A : AS} {all : Bool} {m : Nat} (hV : VA A) (hW : 1 ≤ A.W) (hm : m ≤ 20000) : VA (aftR A (runA A all m).2) := by
  obtain ⟨a1, a2, a3⟩ := runA_inv (A := A) (all := all) (m := m) hW
  refine ⟨hV.1, fun F hF => a1.1 F hF, ?_, ?_⟩
  · show (runA A all m).2.st ≤ 20000
    omega
  · show (runA A all m).2.mn ≤ 20001
    omega
theorem codeR_nI {A : AS} {all : Bool} {m : Nat} {u : zz_St} {post : Int32 → zz_St → Prop} (hW : 1 ≤ A.W) (hm : m ≤ 20000) (h10 : sg_i u 10 = nI (if (runA A all m).2.ran = true then 1 else 0)) (h12 : sg_i u 12 = nI (runA A all m).2.mn) (h : post (nI (codeR (runA A all m).2)) u) : (((sg_i u 10) = 0 → (((sg_i u 12) ≤ 0 → (post 1 u)) ∧ (¬ (sg_i u 12) ≤ 0 → (post 0 u)))) ∧ (¬ (sg_i u 10) = 0 → (post 2 u))) := by
  obtain ⟨a1, a2, a3⟩ := runA_inv (A := A) (all := all) (m := m) hW
  rw [h10, h12]
  unfold codeR at h
  by_cases c : (runA A all m).2.ran = true
  · rw [if_pos c] at h ⊢
    exact ⟨fun z => absurd z (by decide), fun _ => h⟩
  · rw [if_neg c] at h ⊢
    refine ⟨fun _ => ⟨fun z => ?_, fun z => ?_⟩, fun z => absurd rfl z⟩
    · by_cases c2 : (runA A all m).2.mn = 0
      · rw [if_pos c2] at h; exact h
      · exact absurd z (nI_nle (by omega) (by omega))
    · by_cases c2 : (runA A all m).2.mn = 0
      · rw [c2] at z; exact absurd (Int32.le_refl _) z
      · rw [if_neg c2] at h; exact h
theorem zr6 {x : Int32} (h : x = 0) : x = nI 0 := h
theorem sp_S_seek {A : AS} {all : Bool} {m : Nat} {u : zz_St} {post : Int32 → zz_St → Prop} (hB : CB A u) (hV : VA A) (hm : m ≤ 20000) (h : ∀ u', RC (aftR A (runA A all m).2) u' → post (nI (codeR (runA A all m).2)) u') : wp_S_seek (nI m) (nI (if all = true then 1 else 0)) u post := by
  have h24 := S_len hB.1.1
  have hW1 : 1 ≤ A.W := hB.1.1.1
  unfold wp_S_seek
  refine ⟨by cases all; exact Or.inl rfl; exact Or.inr rfl, ?_⟩
  unfold wp_F_forget
  refine sp_S_clearSlots (A := A) (CB_i6 (CB_i7 (CB_i12 (CB_i11 (CB_i10 (CB_i9 (CB_i8 hB))))))) hV (fun f16 g4 g5 hf hr => ?_)
  refine sp_S_fillFrom (A := A) (all := all) (most := m) hm (f := A.S.length) (asg := fun _ => none) (s := mkG 0 0 none false) (lv := 0) (Nat.zero_add _) (by omega) ⟨CB_b5 (CB_b4 (CB_a16 (CB_l1 (CB_l0 (CB_i6 (CB_i7 (CB_i12 (CB_i11 (CB_i10 (CB_i9 (CB_i8 hB))))))))))), by simp (decide := true) only [sx_il, sx_ia, sx_ib, sy_i, sz_i, sx_li, sx_la, sx_lb, sy_l, sz_l, sx_ai, sx_al, sx_ab, sy_a, sz_a, sx_bi, sx_bl, sx_ba, sy_b, sz_b], by simp (decide := true) only [sx_il, sx_ia, sx_ib, sy_i, sz_i, sx_li, sx_la, sx_lb, sy_l, sz_l, sx_ai, sx_al, sx_ab, sy_a, sz_a, sx_bi, sx_bl, sx_ba, sy_b, sz_b], zr6 (by simp (decide := true) only [sx_il, sx_ia, sx_ib, sy_i, sz_i, sx_li, sx_la, sx_lb, sy_l, sz_l, sx_ai, sx_al, sx_ab, sy_a, sz_a, sx_bi, sx_bl, sx_ba, sy_b, sz_b]), zr6 (by simp (decide := true) only [sx_il, sx_ia, sx_ib, sy_i, sz_i, sx_li, sx_la, sx_lb, sy_l, sz_l, sx_ai, sx_al, sx_ab, sy_a, sz_a, sx_bi, sx_bl, sx_ba, sy_b, sz_b]), zr6 (by simp (decide := true) only [sx_il, sx_ia, sx_ib, sy_i, sz_i, sx_li, sx_la, sx_lb, sy_l, sz_l, sx_ai, sx_al, sx_ab, sy_a, sz_a, sx_bi, sx_bl, sx_ba, sy_b, sz_b]), ⟨fun _ => (by simp (decide := true) only [sx_il, sx_ia, sx_ib, sy_i, sz_i, sx_li, sx_la, sx_lb, sy_l, sz_l, sx_ai, sx_al, sx_ab, sy_a, sz_a, sx_bi, sx_bl, sx_ba, sy_b, sz_b]), fun F hF => (by cases hF)⟩, by rw [sumA_none]; exact zr6 (by simp (decide := true) only [sx_il, sx_ia, sx_ib, sy_i, sz_i, sx_li, sx_la, sx_lb, sy_l, sz_l, sx_ai, sx_al, sx_ab, sy_a, sz_a, sx_bi, sx_bl, sx_ba, sy_b, sz_b]), by simp (decide := true) only [sx_il, sx_ia, sx_ib, sy_i, sz_i, sx_li, sx_la, sx_lb, sy_l, sz_l, sx_ai, sx_al, sx_ab, sy_a, sz_a, sx_bi, sx_bl, sx_ba, sy_b, sz_b]; exact hf, by simp (decide := true) only [sx_il, sx_ia, sx_ib, sy_i, sz_i, sx_li, sx_la, sx_lb, sy_l, sz_l, sx_ai, sx_al, sx_ab, sy_a, sz_a, sx_bi, sx_bl, sx_ba, sy_b, sz_b]; exact hasB_congr hasB_0 (fun w _ => ⟨fun z => z.elim, fun z => usedA_none z⟩)⟩ (fun k hk _ => ?_) cons_none (fre_all _) ⟨fun G h => (by cases h), ⟨fun _ => rfl, fun _ => rfl⟩⟩ (Nat.zero_le m) (fun u' hC _ => ?_)
  · obtain ⟨e, he⟩ := S_get hk
    simp (decide := true) only [sx_il, sx_ia, sx_ib, sy_i, sz_i, sx_li, sx_la, sx_lb, sy_l, sz_l, sx_ai, sx_al, sx_ab, sy_a, sz_a, sx_bi, sx_bl, sx_ba, sy_b, sz_b]
    rw [show 0 * 24 + k = k by omega]
    exact hasB_congr (hr k e he) (fun w _ => (fitA_none he).symm)
  · obtain ⟨hB', c8, c9, c10, c11, c12, cf, -⟩ := hC
    refine codeR_nI (A := A) (all := all) (m := m) hW1 hm c10 c12 (h u' ⟨hB', cf, c11, c12⟩)
def okR (a0 : Int32) : Prop := ∃ m : Nat, m ≤ 20000 ∧ a0 = nI m
theorem sp_X_isStepLimit {a0 : Int32} {u : zz_St} {post : Int32 → zz_St → Prop} (h1 : ∀ m : Nat, m ≤ 20000 → a0 = nI m → post 1 u) (h0 : ¬ okR a0 → post 0 u) : wp_X_isStepLimit a0 u post := by
  unfold wp_X_isStepLimit
  refine ⟨fun c => h0 ?_, fun c0 => ?_⟩
  · rintro ⟨m, z1, rfl⟩
    exact nI_pos (by omega) c
  · obtain ⟨m, hm31, rfl⟩ := nI_of c0
    refine pk_lt 20000 m (fun c => h0 ?_) (fun c => h1 m c rfl)
    rintro ⟨m', z1, z2⟩
    have := nI_inj (by omega) (by omega) z2
    omega
theorem sp_X_run {A : AS} {a0 : Int32} {u : zz_St} {post : Int32 → zz_St → Prop} (hR : RC A u) (hV : VA A) (h1 : ∀ m : Nat, m ≤ 20000 → a0 = nI m → ∀ u', RC (aftR A (runA A false m).2) u' → post (nI (codeR (runA A false m).2)) u') (h0 : ¬ okR a0 → post (-1) u) : wp_X_run a0 u post := by
  unfold wp_X_run
  refine sp_X_isStepLimit (fun m hm em => ⟨fun z => absurd z (by decide), fun _ => ?_⟩) (fun z => ⟨fun _ => h0 z, fun z => absurd rfl z⟩)
  rw [em]
  exact sp_S_seek (A := A) (all := false) hR.1 hV hm (h1 m hm em)
theorem sp_X_best {A : AS} {a0 : Int32} {u : zz_St} {post : Int32 → zz_St → Prop} (hR : RC A u) (hV : VA A) (h1 : ∀ m : Nat, m ≤ 20000 → a0 = nI m → ∀ u', RC (aftR A (runA A true m).2) u' → post (nI (codeR (runA A true m).2)) u') (h0 : ¬ okR a0 → post (-1) u) : wp_X_best a0 u post := by
  unfold wp_X_best
  refine sp_X_isStepLimit (fun m hm em => ⟨fun z => absurd z (by decide), fun _ => ?_⟩) (fun z => ⟨fun _ => h0 z, fun z => absurd rfl z⟩)
  rw [em]
  exact sp_S_seek (A := A) (all := true) hR.1 hV hm (h1 m hm em)
