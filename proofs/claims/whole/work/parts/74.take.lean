def gdS (A : AS) (s : Sg) : Prop := (∀ G, s.fd = some G → okF A G) ∧ (s.fd = none ↔ s.mn = 0)
theorem okF_full {A : AS} {asg : Nat → Option Nat} (hc : cons A asg) (hf : ∀ k, k < A.S.length → ∃ w, asg k = some w) : okF A (fnA asg) := by
  have key : ∀ (k : Nat) (e : Nat × Nat × Nat), A.S[k]? = some e → asg k = some (fnA asg k) := by
    intro k e hk
    have hkn : k < A.S.length := by
      rcases Nat.lt_or_ge k A.S.length with z | z
      · exact z
      · rw [List.getElem?_eq_none z] at hk; cases hk
    obtain ⟨w, hw⟩ := hf k hkn
    unfold fnA
    rw [hw]
    rfl
  refine ⟨fun k e hk => ?_, fun k e k' e' p p' hk hk' hp hp' h => ?_⟩
  · obtain ⟨a1, a2, -⟩ := hc k e _ hk (key k e hk)
    exact ⟨a1, a2.1⟩
  · exact (hc k e _ hk (key k e hk)).2.2 k' e' _ hk' (key k' e' hk') p p' hp hp' h
theorem gdS_take {A : AS} {asg : Nat → Option Nat} {s : Sg} (hc : cons A asg) (hf : ∀ k, k < A.S.length → ∃ w, asg k = some w) (hg : gdS A s) : gdS A (takeA A asg s) := by
  unfold takeA
  by_cases c : pB (bet A s.fd (fnA asg)) = true
  · rw [if_pos c]
    refine ⟨fun G hG => ?_, ⟨fun z => ?_, fun z => ?_⟩⟩
    · have : some (fnA asg) = some G := hG
      cases this
      exact okF_full hc hf
    · have : (some (fnA asg) : Option (Nat → Nat)) = none := z
      cases this
    · have : s.mn + 1 = 0 := z
      omega
  · rw [if_neg c]
    refine ⟨hg.1, ⟨fun z => ?_, fun z => ?_⟩⟩
    · have z' : s.fd = none := z
      exact (c (pB_iff.mpr (fun G hG => by rw [z'] at hG; cases hG))).elim
    · have : s.mn + 1 = 0 := z
      omega
theorem tryL_inv {most : Nat} {rec : Nat → Sg → Bool × Sg} {I : Sg → Prop} : ∀ {ws : List Nat}, (∀ w, w ∈ ws → ∀ s, s.st < most → I s → I (rec w (mkG (s.st + 1) s.mn s.fd s.ran)).2) → (∀ s, I s → I (mkG s.st s.mn s.fd true)) → ∀ s, I s → I (tryL most rec ws s).2 := by
  intro ws
  induction ws with
  | nil => intro _ _ s h; exact h
  | cons w t ih =>
    intro h1 h2 s h
    rw [tryL]
    split
    · exact h2 s h
    · have h3 := h1 w (List.mem_cons_self) s (by omega) h
      split
      · exact ih (fun w' hw' => h1 w' (List.mem_cons_of_mem _ hw')) h2 _ h3
      · exact h3
theorem srch_inv {A : AS} {all : Bool} {most : Nat} (hW : 1 ≤ A.W) : ∀ {f : Nat} {asg : Nat → Option Nat} {s : Sg}, fre asg A.S.length = f → cons A asg → gdS A s → s.st ≤ most → gdS A (srch A all most f asg s).2 ∧ (srch A all most f asg s).2.st ≤ most ∧ (s.mn + (if f = 0 then 1 else 0) ≤ s.st → (srch A all most f asg s).2.mn ≤ (srch A all most f asg s).2.st) := by
  intro f
  induction f with
  | zero =>
    intro asg s hf hc hg hs
    refine ⟨gdS_take hc (fre_0 hf) hg, hs, fun z => ?_⟩
    show s.mn + 1 ≤ s.st
    exact z
  | succ f ih =>
    intro asg s hf hc hg hs
    rw [srch]
    cases hp : (pkS A asg A.S.length).2 with
    | none => exact ⟨hg, hs, fun z => z⟩
    | some k =>
      obtain ⟨k1, k2, -⟩ := pkS_some hp
      have hfs : ∀ w, fre (setA asg k w) A.S.length = f := fun w => by
        have := fre_set (w := w) k1 k2
        omega
      have hcs : ∀ w, w ∈ cL A asg k → cons A (setA asg k w) := fun w hw => by
        obtain ⟨a1, a2, -⟩ := cL_mem.mp hw
        exact cons_set hW hc a1 a2
      show gdS A (tryL most (fun w s => srch A all most f (setA asg k w) s) (cL A asg k) s).2 ∧ (tryL most (fun w s => srch A all most f (setA asg k w) s) (cL A asg k) s).2.st ≤ most ∧ (_ → (tryL most (fun w s => srch A all most f (setA asg k w) s) (cL A asg k) s).2.mn ≤ (tryL most (fun w s => srch A all most f (setA asg k w) s) (cL A asg k) s).2.st)
      have r1 := tryL_inv (most := most) (rec := fun w s => srch A all most f (setA asg k w) s) (I := fun s => gdS A s ∧ s.st ≤ most) (ws := cL A asg k) (fun w hw s hlt hI => by
        obtain ⟨q1, q2, -⟩ := ih (asg := setA asg k w) (s := mkG (s.st + 1) s.mn s.fd s.ran) (hfs w) (hcs w hw) hI.1 hlt
        exact ⟨q1, q2⟩) (fun s hI => hI) s ⟨hg, hs⟩
      refine ⟨r1.1, r1.2, fun z => ?_⟩
      have r2 := tryL_inv (most := most) (rec := fun w s => srch A all most f (setA asg k w) s) (I := fun s => (gdS A s ∧ s.st ≤ most) ∧ s.mn ≤ s.st) (ws := cL A asg k) (fun w hw s hlt hI => by
        obtain ⟨q1, q2, q3⟩ := ih (asg := setA asg k w) (s := mkG (s.st + 1) s.mn s.fd s.ran) (hfs w) (hcs w hw) hI.1.1 hlt
        refine ⟨⟨q1, q2⟩, q3 ?_⟩
        show s.mn + _ ≤ s.st + 1
        have := hI.2
        split <;> omega) (fun s hI => hI) s ⟨⟨hg, hs⟩, by rw [if_neg (by omega)] at z; exact z⟩
      exact r2.2
theorem fdC_of {A : AS} {fd : Option (Nat → Nat)} {u u' : zz_St} (h : fdC A fd u) (h6 : sg_i u' 6 = sg_i u 6) (h15 : sg_a u' 15 = sg_a u 15) : fdC A fd u' := by
  unfold fdC
  rw [h6, h15]
  exact h
theorem okF_sum {A : AS} {u : zz_St} (hB : CB A u) {F : Nat → Nat} (h : okF A F) : sumF A.sc F A.S.length ≤ 24000 := by
  have h24 := S_len hB.1.1
  have := sumF_le (sc := A.sc) (F := F) (n := A.S.length) (fun k hk => by
    obtain ⟨e, he⟩ := S_get hk
    exact (hB.2.1.1.2.2 (F k) (h.1 k e he).1).2.2.1)
  omega
theorem sp_S_takeFilling {A : AS} {all : Bool} {most : Nat} {asg : Nat → Option Nat} {s : Sg} {u : zz_St} {post : Int32 → zz_St → Prop} (hC : CS A all most asg s u) (hc : cons A asg) (hf : ∀ k, k < A.S.length → ∃ w, asg k = some w) (hg : gdS A s)
    (h : ∀ u', CS A all most asg (takeA A asg s) u' → sg_b u' 4 = sg_b u 4 → sg_b u' 5 = sg_b u 5 → post (nI (if all = true then 1 else 0)) u') : wp_S_takeFilling u post := by
  obtain ⟨hB, c8, c9, c10, c11, c12, cf, c7, c16, cU⟩ := id hC
  have h24 := S_len hB.1.1
  have hns := hB.1.2.2.1
  have hok := okF_full hc hf
  have hsum := okF_sum hB hok
  have b01 : ∀ {p : Prop}, p → (nI (if all = true then 1 else 0) = 0 ∨ nI (if all = true then 1 else 0) = 1) ∧ p := fun q => ⟨by cases all; exact Or.inl rfl; exact Or.inr rfl, q⟩
  rw [sumA_full hf] at c7
  have less : ¬ bet A s.fd (fnA asg) → post (nI (if all = true then 1 else 0)) (ss_i u 12 (nI (s.mn + 1))) := fun nb => by
    refine h _ ⟨CB_i12 hB, by simp (decide := true) only [sx_il, sx_ia, sx_ib, sy_i, sz_i, sx_li, sx_la, sx_lb, sy_l, sz_l, sx_ai, sx_al, sx_ab, sy_a, sz_a, sx_bi, sx_bl, sx_ba, sy_b, sz_b]; exact c8, by simp (decide := true) only [sx_il, sx_ia, sx_ib, sy_i, sz_i, sx_li, sx_la, sx_lb, sy_l, sz_l, sx_ai, sx_al, sx_ab, sy_a, sz_a, sx_bi, sx_bl, sx_ba, sy_b, sz_b]; exact c9, by simp (decide := true) only [sx_il, sx_ia, sx_ib, sy_i, sz_i, sx_li, sx_la, sx_lb, sy_l, sz_l, sx_ai, sx_al, sx_ab, sy_a, sz_a, sx_bi, sx_bl, sx_ba, sy_b, sz_b]; exact c10, by simp (decide := true) only [sx_il, sx_ia, sx_ib, sy_i, sz_i, sx_li, sx_la, sx_lb, sy_l, sz_l, sx_ai, sx_al, sx_ab, sy_a, sz_a, sx_bi, sx_bl, sx_ba, sy_b, sz_b]; exact c11, by simp (decide := true) only [sx_il, sx_ia, sx_ib, sy_i, sz_i, sx_li, sx_la, sx_lb, sy_l, sz_l, sx_ai, sx_al, sx_ab, sy_a, sz_a, sx_bi, sx_bl, sx_ba, sy_b, sz_b]; rfl, ?_, by rw [sumA_full hf]; simp (decide := true) only [sx_il, sx_ia, sx_ib, sy_i, sz_i, sx_li, sx_la, sx_lb, sy_l, sz_l, sx_ai, sx_al, sx_ab, sy_a, sz_a, sx_bi, sx_bl, sx_ba, sy_b, sz_b]; exact c7, by simp (decide := true) only [sx_il, sx_ia, sx_ib, sy_i, sz_i, sx_li, sx_la, sx_lb, sy_l, sz_l, sx_ai, sx_al, sx_ab, sy_a, sz_a, sx_bi, sx_bl, sx_ba, sy_b, sz_b]; exact c16, by simp (decide := true) only [sx_il, sx_ia, sx_ib, sy_i, sz_i, sx_li, sx_la, sx_lb, sy_l, sz_l, sx_ai, sx_al, sx_ab, sy_a, sz_a, sx_bi, sx_bl, sx_ba, sy_b, sz_b]; exact cU⟩ (by simp (decide := true) only [sx_il, sx_ia, sx_ib, sy_i, sz_i, sx_li, sx_la, sx_lb, sy_l, sz_l, sx_ai, sx_al, sx_ab, sy_a, sz_a, sx_bi, sx_bl, sx_ba, sy_b, sz_b]) (by simp (decide := true) only [sx_il, sx_ia, sx_ib, sy_i, sz_i, sx_li, sx_la, sx_lb, sy_l, sz_l, sx_ai, sx_al, sx_ab, sy_a, sz_a, sx_bi, sx_bl, sx_ba, sy_b, sz_b])
    have e1 : (takeA A asg s).fd = s.fd := by
      show (if pB (bet A s.fd (fnA asg)) = true then some (fnA asg) else s.fd) = s.fd
      rw [if_neg (fun z => nb (pB_iff.mp z))]
    rw [e1]
    exact fdC_of cf (by simp (decide := true) only [sx_il, sx_ia, sx_ib, sy_i, sz_i, sx_li, sx_la, sx_lb, sy_l, sz_l, sx_ai, sx_al, sx_ab, sy_a, sz_a, sx_bi, sx_bl, sx_ba, sy_b, sz_b]) (by simp (decide := true) only [sx_il, sx_ia, sx_ib, sy_i, sz_i, sx_li, sx_la, sx_lb, sy_l, sz_l, sx_ai, sx_al, sx_ab, sy_a, sz_a, sx_bi, sx_bl, sx_ba, sy_b, sz_b])
  have more : bet A s.fd (fnA asg) → wp_F_keep (nI (sumF A.sc (fnA asg) A.S.length)) (ss_i u 12 (nI (s.mn + 1))) (fun s3 => (((sg_i s3 9) = 0 ∨ (sg_i s3 9) = 1) ∧ post (sg_i s3 9) s3)) := fun yb => by
    unfold wp_F_keep
    simp (decide := true) only [sx_il, sx_ia, sx_ib, sy_i, sz_i, sx_li, sx_la, sx_lb, sy_l, sz_l, sx_ai, sx_al, sx_ab, sy_a, sz_a, sx_bi, sx_bl, sx_ba, sy_b, sz_b]
    rw [hns, nI_clamp (n := A.S.length) (by omega), c9]
    have z0 : ¬ (0 : Int32) < 0 := by decide
    refine ⟨trivial, trivial, nI_pos (by omega), ?_, ?_, ?_⟩
    · show 0 + A.S.length ≤ 24
      omega
    · show 0 + A.S.length ≤ 24
      omega
    refine b01 (h _ ⟨CB_i6 (CB_a15 (CB_i12 hB)), by simp (decide := true) only [sx_il, sx_ia, sx_ib, sy_i, sz_i, sx_li, sx_la, sx_lb, sy_l, sz_l, sx_ai, sx_al, sx_ab, sy_a, sz_a, sx_bi, sx_bl, sx_ba, sy_b, sz_b]; exact c8, by simp (decide := true) only [sx_il, sx_ia, sx_ib, sy_i, sz_i, sx_li, sx_la, sx_lb, sy_l, sz_l, sx_ai, sx_al, sx_ab, sy_a, sz_a, sx_bi, sx_bl, sx_ba, sy_b, sz_b]; exact c9, by simp (decide := true) only [sx_il, sx_ia, sx_ib, sy_i, sz_i, sx_li, sx_la, sx_lb, sy_l, sz_l, sx_ai, sx_al, sx_ab, sy_a, sz_a, sx_bi, sx_bl, sx_ba, sy_b, sz_b]; exact c10, by simp (decide := true) only [sx_il, sx_ia, sx_ib, sy_i, sz_i, sx_li, sx_la, sx_lb, sy_l, sz_l, sx_ai, sx_al, sx_ab, sy_a, sz_a, sx_bi, sx_bl, sx_ba, sy_b, sz_b]; exact c11, by simp (decide := true) only [sx_il, sx_ia, sx_ib, sy_i, sz_i, sx_li, sx_la, sx_lb, sy_l, sz_l, sx_ai, sx_al, sx_ab, sy_a, sz_a, sx_bi, sx_bl, sx_ba, sy_b, sz_b]; rfl, ?_, by rw [sumA_full hf]; simp (decide := true) only [sx_il, sx_ia, sx_ib, sy_i, sz_i, sx_li, sx_la, sx_lb, sy_l, sz_l, sx_ai, sx_al, sx_ab, sy_a, sz_a, sx_bi, sx_bl, sx_ba, sy_b, sz_b]; exact c7, by simp (decide := true) only [sx_il, sx_ia, sx_ib, sy_i, sz_i, sx_li, sx_la, sx_lb, sy_l, sz_l, sx_ai, sx_al, sx_ab, sy_a, sz_a, sx_bi, sx_bl, sx_ba, sy_b, sz_b]; exact c16, by simp (decide := true) only [sx_il, sx_ia, sx_ib, sy_i, sz_i, sx_li, sx_la, sx_lb, sy_l, sz_l, sx_ai, sx_al, sx_ab, sy_a, sz_a, sx_bi, sx_bl, sx_ba, sy_b, sz_b]; exact cU⟩ (by simp (decide := true) only [sx_il, sx_ia, sx_ib, sy_i, sz_i, sx_li, sx_la, sx_lb, sy_l, sz_l, sx_ai, sx_al, sx_ab, sy_a, sz_a, sx_bi, sx_bl, sx_ba, sy_b, sz_b]) (by simp (decide := true) only [sx_il, sx_ia, sx_ib, sy_i, sz_i, sx_li, sx_la, sx_lb, sy_l, sz_l, sx_ai, sx_al, sx_ab, sy_a, sz_a, sx_bi, sx_bl, sx_ba, sy_b, sz_b]))
    have e1 : (takeA A asg s).fd = some (fnA asg) := by
      show (if pB (bet A s.fd (fnA asg)) = true then some (fnA asg) else s.fd) = some (fnA asg)
      rw [if_pos (pB_iff.mpr yb)]
    rw [e1]
    unfold fdC
    refine ⟨fun z => absurd z (by simp), fun F hF => ?_⟩
    have hF' : fnA asg = F := Option.some.inj hF
    subst hF'
    simp (decide := true) only [sx_il, sx_ia, sx_ib, sy_i, sz_i, sx_li, sx_la, sx_lb, sy_l, sz_l, sx_ai, sx_al, sx_ab, sy_a, sz_a, sx_bi, sx_bl, sx_ba, sy_b, sz_b]
    refine ⟨trivial, fun k hk => ?_⟩
    rw [show (0 : Int32).toNatClampNeg = 0 from rfl, pk_cpy_in (by omega) (by omega), show 0 + (k - 0) = k by omega, c16 k hk]
    obtain ⟨w, hw⟩ := hf k hk
    unfold fnA
    rw [hw]
    rfl
  unfold wp_S_takeFilling
  rw [c12, nI_1, c7, c9]
  rintro _ rfl
  cases hfd : s.fd with
  | none =>
    rw [cf.1 hfd]
    have hnb : bet A s.fd (fnA asg) := fun G hG => by rw [hfd] at hG; cases hG
    refine ⟨fun z => ?_, fun _ => more hnb⟩
    exfalso
    rw [Int32.le_iff_toInt_le, nI_toInt (by omega)] at z
    have : (-1 : Int32).toInt = -1 := by decide
    omega
  | some G =>
    rw [(cf.2 G hfd).1]
    have hGs := okF_sum hB (hg.1 G hfd)
    refine pk_le (sumF A.sc (fnA asg) A.S.length) (sumF A.sc G A.S.length) (fun z => b01 (less (fun q => ?_))) (fun z => more (fun G' hG' => ?_))
    · have := q G hfd
      omega
    · rw [hfd] at hG'
      cases hG'
      exact z
