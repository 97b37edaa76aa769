def usedA (A : AS) (asg : Nat → Option Nat) (w : Nat) : Prop := ∃ k, k < A.S.length ∧ asg k = some w
def fitG (A : AS) (k : Nat) (e : Nat × Nat × Nat) (w : Nat) : Prop := A.len w = e.2.1 ∧ (∀ t, A.th k = some t → t = w) ∧ ∀ p, p < e.2.1 → A.gv (celp A.W e p) = 0 ∨ A.gv (celp A.W e p) = A.lt w p
def crsA (A : AS) (e : Nat × Nat × Nat) (w : Nat) (e' : Nat × Nat × Nat) (w' : Nat) : Prop := ∀ p p', p < e.2.1 → p' < e'.2.1 → celp A.W e p = celp A.W e' p' → A.lt w p = A.lt w' p'
def fitA (A : AS) (asg : Nat → Option Nat) (k w : Nat) : Prop := ∃ e, A.S[k]? = some e ∧ fitG A k e w ∧ ∀ (k' : Nat) (e' : Nat × Nat × Nat) (w' : Nat), A.S[k']? = some e' → asg k' = some w' → crsA A e w e' w'
noncomputable def cL (A : AS) (asg : Nat → Option Nat) (k : Nat) : List Nat := (ordW A.sc A.n).filter (fun w => pB (fitA A asg k w ∧ ¬ usedA A asg w))
noncomputable def pkS (A : AS) (asg : Nat → Option Nat) : Nat → Nat × Option Nat
  | 0 => (81, none)
  | j + 1 => if asg j = none ∧ (cL A asg j).length < (pkS A asg j).1 then ((cL A asg j).length, some j) else pkS A asg j
def setA (asg : Nat → Option Nat) (k w : Nat) : Nat → Option Nat := fun j => if j = k then some w else asg j
def Sg : Type := Nat × Nat × (Option (Nat → Nat)) × Bool
def Sg.st (s : Sg) : Nat := s.1
def Sg.mn (s : Sg) : Nat := s.2.1
def Sg.fd (s : Sg) : Option (Nat → Nat) := s.2.2.1
def Sg.ran (s : Sg) : Bool := s.2.2.2
def mkG (st mn : Nat) (fd : Option (Nat → Nat)) (ran : Bool) : Sg := (st, mn, fd, ran)
def fnA (asg : Nat → Option Nat) : Nat → Nat := fun k => (asg k).getD 0
def bet (A : AS) (fd : Option (Nat → Nat)) (F : Nat → Nat) : Prop := ∀ G, fd = some G → sumF A.sc G A.S.length < sumF A.sc F A.S.length
noncomputable def takeA (A : AS) (asg : Nat → Option Nat) (s : Sg) : Sg := mkG s.st (s.mn + 1) (if pB (bet A s.fd (fnA asg)) = true then some (fnA asg) else s.fd) s.ran
def tryL (most : Nat) (rec : Nat → Sg → Bool × Sg) : List Nat → Sg → Bool × Sg
  | [], s => (true, s)
  | w :: t, s => if most ≤ s.st then (false, mkG s.st s.mn s.fd true) else if (rec w (mkG (s.st + 1) s.mn s.fd s.ran)).1 = true then tryL most rec t (rec w (mkG (s.st + 1) s.mn s.fd s.ran)).2 else (false, (rec w (mkG (s.st + 1) s.mn s.fd s.ran)).2)
noncomputable def srch (A : AS) (all : Bool) (most : Nat) : Nat → (Nat → Option Nat) → Sg → Bool × Sg
  | 0, asg, s => (all, takeA A asg s)
  | f + 1, asg, s => match (pkS A asg A.S.length).2 with
    | none => (true, s)
    | some k => tryL most (fun w s => srch A all most f (setA asg k w) s) (cL A asg k) s
def fre (asg : Nat → Option Nat) (ns : Nat) : Nat := cntB ns (fun k => (asg k).isNone)
def cons (A : AS) (asg : Nat → Option Nat) : Prop := ∀ (k : Nat) (e : Nat × Nat × Nat) (w : Nat), A.S[k]? = some e → asg k = some w → w < A.n ∧ fitG A k e w ∧ ∀ (k' : Nat) (e' : Nat × Nat × Nat) (w' : Nat), A.S[k']? = some e' → asg k' = some w' → crsA A e w e' w'
theorem crs_symm {A : AS} {e e' : Nat × Nat × Nat} {w w' : Nat} (h : crsA A e w e' w') : crsA A e' w' e w := fun p p' h1 h2 h3 => (h p' p h2 h1 h3.symm).symm
theorem crs_self {A : AS} {k : Nat} {e : Nat × Nat × Nat} {w : Nat} (hW : 1 ≤ A.W) : crsA A e w e w := fun p p' h1 h2 h3 => by rw [celp_inj hW h3]
theorem cL_mem {A : AS} {asg : Nat → Option Nat} {k w : Nat} : w ∈ cL A asg k ↔ w < A.n ∧ fitA A asg k w ∧ ¬ usedA A asg w := by
  unfold cL
  rw [List.mem_filter, ordW_mem, pB_iff]
theorem cL_len {A : AS} {asg : Nat → Option Nat} {k : Nat} : (cL A asg k).length ≤ A.n := by
  unfold cL
  have := List.length_filter_le (fun w => pB (fitA A asg k w ∧ ¬ usedA A asg w)) (ordW A.sc A.n)
  rw [ordW_len] at this
  exact this
theorem cons_set {A : AS} {asg : Nat → Option Nat} {k w : Nat} (hW : 1 ≤ A.W) (h : cons A asg) (hw : w < A.n) (hf : fitA A asg k w) : cons A (setA asg k w) := by
  obtain ⟨e0, h0, h1, h2⟩ := hf
  have key : ∀ (k' : Nat) (e' : Nat × Nat × Nat) (w' : Nat), A.S[k']? = some e' → setA asg k w k' = some w' → crsA A e0 w e' w' := by
    intro k' e' w' a1 a2
    by_cases e : k' = k
    · subst e
      rw [h0] at a1
      cases a1
      unfold setA at a2
      rw [if_pos rfl] at a2
      cases a2
      exact crs_self (k := k') hW
    · unfold setA at a2
      rw [if_neg e] at a2
      exact h2 k' e' w' a1 a2
  intro k1 e1 w1 a1 a2
  by_cases e : k1 = k
  · subst e
    rw [h0] at a1
    cases a1
    have a3 := a2
    unfold setA at a3
    rw [if_pos rfl] at a3
    cases a3
    exact ⟨hw, h1, key⟩
  · have a3 := a2
    unfold setA at a3
    rw [if_neg e] at a3
    obtain ⟨b1, b2, b3⟩ := h k1 e1 w1 a1 a3
    refine ⟨b1, b2, fun k' e' w' c1 c2 => ?_⟩
    by_cases ek : k' = k
    · subst ek
      rw [h0] at c1
      cases c1
      unfold setA at c2
      rw [if_pos rfl] at c2
      cases c2
      exact crs_symm (key k1 e1 w1 a1 a2)
    · unfold setA at c2
      rw [if_neg ek] at c2
      exact b3 k' e' w' c1 c2
theorem fre_set {asg : Nat → Option Nat} {ns k w : Nat} (hk : k < ns) (h : asg k = none) : fre (setA asg k w) ns + 1 = fre asg ns := by
  unfold fre
  refine cntB_remove (m := k) hk (by rw [h]; rfl) (fun i hi => ?_)
  unfold setA
  by_cases e : i = k
  · rw [if_pos e]; simp [e]
  · rw [if_neg e]; simp [e]
theorem fre_0 {asg : Nat → Option Nat} : ∀ {ns : Nat}, fre asg ns = 0 → ∀ k, k < ns → ∃ w, asg k = some w := by
  intro ns
  induction ns with
  | zero => intro _ k hk; exact absurd hk (Nat.not_lt_zero k)
  | succ ns ih =>
    intro h k hk
    unfold fre at h
    rw [cntB] at h
    by_cases e : k = ns
    · subst e
      cases h2 : asg k with
      | none => rw [h2] at h; simp at h
      | some w => exact ⟨w, rfl⟩
    · exact ih (by unfold fre; omega) k (by omega)
theorem pkS_none {A : AS} {asg : Nat → Option Nat} (h80 : A.n ≤ 80) : ∀ {j : Nat}, (pkS A asg j).2 = none → (pkS A asg j).1 = 81 ∧ ∀ k, k < j → asg k ≠ none := by
  intro j
  induction j with
  | zero => intro _; exact ⟨rfl, fun k hk => absurd hk (Nat.not_lt_zero k)⟩
  | succ j ih =>
    intro h
    unfold pkS at h ⊢
    by_cases c : asg j = none ∧ (cL A asg j).length < (pkS A asg j).1
    · rw [if_pos c] at h; cases h
    · rw [if_neg c] at h ⊢
      obtain ⟨i1, i2⟩ := ih h
      refine ⟨i1, fun k hk => ?_⟩
      by_cases e : k = j
      · subst e
        intro z
        have := cL_len (A := A) (asg := asg) (k := k)
        exact c ⟨z, by omega⟩
      · exact i2 k (by omega)
theorem pkS_some {A : AS} {asg : Nat → Option Nat} {k : Nat} : ∀ {j : Nat}, (pkS A asg j).2 = some k → k < j ∧ asg k = none ∧ (pkS A asg j).1 = (cL A asg k).length := by
  intro j
  induction j with
  | zero => intro h; cases h
  | succ j ih =>
    intro h
    unfold pkS at h ⊢
    by_cases c : asg j = none ∧ (cL A asg j).length < (pkS A asg j).1
    · rw [if_pos c] at h ⊢
      cases h
      exact ⟨by omega, c.1, rfl⟩
    · rw [if_neg c] at h ⊢
      obtain ⟨i1, i2, i3⟩ := ih h
      exact ⟨by omega, i2, i3⟩
theorem pkS_zero {A : AS} {asg : Nat → Option Nat} {j : Nat} (h : (pkS A asg j).1 = 0) : ∀ t, pkS A asg (j + t) = pkS A asg j := by
  intro t
  induction t with
  | zero => rfl
  | succ t ih =>
    show pkS A asg (j + t + 1) = _
    rw [pkS, ih, if_neg (fun z => by have := z.2; omega)]
theorem pkS_fre {A : AS} {asg : Nat → Option Nat} (h80 : A.n ≤ 80) {j : Nat} (h : 0 < fre asg j) : ∃ k, (pkS A asg j).2 = some k := by
  cases e : (pkS A asg j).2 with
  | some k => exact ⟨k, rfl⟩
  | none =>
    obtain ⟨-, h2⟩ := pkS_none h80 e
    have : fre asg j = cntB j (fun _ => false) := cntB_congr (fun i hi => by
      cases e2 : asg i with
      | none => exact absurd e2 (h2 i hi)
      | some w => rfl)
    rw [cntB_false] at this
    omega
