noncomputable def pB (P : Prop) : Bool := @decide P (Classical.propDecidable P)
theorem pB_iff {P : Prop} : pB P = true ↔ P := by
  unfold pB
  exact @decide_eq_true_iff P (Classical.propDecidable P)
theorem pB_congr {P Q : Prop} (h : P ↔ Q) : pB P = pB Q := by
  rw [Bool.eq_iff_iff, pB_iff, pB_iff]
  exact h
def adjc (W H : Nat) (bl : Nat → Nat) (a b : Nat) : Prop := ∃ x y : Nat, (opn W H bl x y = true ∧ opn W H bl (x + 1) y = true ∧ a = x + W * y ∧ b = x + 1 + W * y) ∨ (opn W H bl x y = true ∧ opn W H bl x (y + 1) = true ∧ a = x + W * y ∧ b = x + W * (y + 1))
def con (W H : Nat) (bl : Nat → Nat) (a b : Nat) : Prop := ∀ S : Nat → Prop, (∀ p q, adjc W H bl p q → (S p ↔ S q)) → (S a ↔ S b)
theorem con_refl {W H : Nat} {bl : Nat → Nat} (a : Nat) : con W H bl a a := fun _ _ => Iff.rfl
theorem con_symm {W H : Nat} {bl : Nat → Nat} {a b : Nat} (h : con W H bl a b) : con W H bl b a := fun S hS => (h S hS).symm
theorem con_trans {W H : Nat} {bl : Nat → Nat} {a b c : Nat} (h : con W H bl a b) (h2 : con W H bl b c) : con W H bl a c := fun S hS => (h S hS).trans (h2 S hS)
theorem con_adj {W H : Nat} {bl : Nat → Nat} {a b : Nat} (h : adjc W H bl a b) : con W H bl a b := fun S hS => hS a b h
noncomputable def ndc (N : Nat) (o : Nat → Prop) (R : Nat → Nat → Prop) : Nat := cntB N (fun c => pB (o c ∧ ∀ d, d < c → o d → ¬ R d c))
theorem ndc_congr {N : Nat} {o : Nat → Prop} {R R' : Nat → Nat → Prop} (h : ∀ d c, d < c → c < N → o d → o c → (R d c ↔ R' d c)) : ndc N o R = ndc N o R' := by
  refine cntB_congr (fun c hc => pB_congr ?_)
  constructor
  · rintro ⟨h1, h2⟩
    exact ⟨h1, fun d hd ho q => h2 d hd ho ((h d c hd hc ho h1).mpr q)⟩
  · rintro ⟨h1, h2⟩
    exact ⟨h1, fun d hd ho q => h2 d hd ho ((h d c hd hc ho h1).mp q)⟩
theorem cntB_remove : ∀ {N m : Nat} {p q : Nat → Bool}, m < N → p m = true → (∀ i, i < N → q i = (p i && decide (i ≠ m))) → cntB N q + 1 = cntB N p := by
  intro N
  induction N with
  | zero => intro m p q h; exact absurd h (Nat.not_lt_zero m)
  | succ N ih =>
    intro m p q hm hp hq
    rw [cntB, cntB]
    by_cases e : m = N
    · subst e
      have h1 : cntB m q = cntB m p := cntB_congr (fun i hi => by rw [hq i (by omega)]; simp [show ¬ i = m by omega])
      have h2 : q m = false := by rw [hq m (by omega)]; simp
      rw [h1, h2, hp]
      simp
      omega
    · have h1 := ih (m := m) (p := p) (q := q) (by omega) hp (fun i hi => hq i (by omega))
      have h2 : q N = p N := by rw [hq N (by omega)]; simp [show ¬ N = m by omega]
      rw [h2]
      omega
theorem ndc_merge {N : Nat} {o : Nat → Prop} {L : Nat → Nat} {k g p q : Nat} (hkg : k ≠ g) (hp : p < N ∧ o p ∧ L p = k) (hq : q < N ∧ o q ∧ L q = g) : ndc N o (fun a b => (if L a = g then k else L a) = (if L b = g then k else L b)) + 1 = ndc N o (fun a b => L a = L b) := by
  obtain ⟨ck, ⟨k1, k2⟩, k3⟩ := pk_least (fun c => o c ∧ L c = k) ⟨p, hp.2⟩
  obtain ⟨cg, ⟨g1, g2⟩, g3⟩ := pk_least (fun c => o c ∧ L c = g) ⟨q, hq.2⟩
  have kp : ck ≤ p := by
    rcases Nat.lt_or_ge p ck with z | z
    · exact absurd hp.2 (k3 p z)
    · exact z
  have gq : cg ≤ q := by
    rcases Nat.lt_or_ge q cg with z | z
    · exact absurd hq.2 (g3 q z)
    · exact z
  have hne : ck ≠ cg := fun e => hkg (by rw [← k2, ← g2, e])
  refine cntB_remove (m := max ck cg) (by omega) ?_ (fun c hc => ?_)
  · rw [pB_iff]
    rcases Nat.lt_or_ge ck cg with z | z
    · rw [Nat.max_eq_right (by omega)]
      exact ⟨g1, fun d hd ho e => g3 d hd ⟨ho, by rw [e]; exact g2⟩⟩
    · rw [Nat.max_eq_left (by omega)]
      exact ⟨k1, fun d hd ho e => k3 d hd ⟨ho, by rw [e]; exact k2⟩⟩
  · rw [Bool.eq_iff_iff, Bool.and_eq_true, pB_iff, pB_iff, decide_eq_true_iff]
    constructor
    · rintro ⟨h1, h2⟩
      replace h2 : ∀ d, d < c → o d → ¬ (if L d = g then k else L d) = (if L c = g then k else L c) := h2
      refine ⟨⟨h1, fun d hd ho e => h2 d hd ho (by replace e : L d = L c := e; rw [e])⟩, fun e => ?_⟩
      rcases Nat.lt_or_ge ck cg with z | z
      · rw [Nat.max_eq_right (by omega)] at e
        subst e
        exact h2 ck z k1 (by rw [k2, g2, if_pos rfl, if_neg hkg])
      · rw [Nat.max_eq_left (by omega)] at e
        subst e
        exact h2 cg (by omega) g1 (by rw [k2, g2, if_pos rfl, if_neg hkg])
    · rintro ⟨⟨h1, h2⟩, h3⟩
      replace h2 : ∀ d, d < c → o d → ¬ L d = L c := h2
      refine ⟨h1, fun d hd ho e => ?_⟩
      replace e : (if L d = g then k else L d) = (if L c = g then k else L c) := e
      by_cases ec : L c = g
      · by_cases ed : L d = g
        · exact h2 d hd ho (by rw [ec, ed])
        · rw [if_neg ed, if_pos ec] at e
          have c1 : cg ≤ c := by
            rcases Nat.lt_or_ge c cg with z | z
            · exact absurd ⟨h1, ec⟩ (g3 c z)
            · exact z
          have c2 : c = cg := by
            rcases Nat.lt_or_ge cg c with z | z
            · exact absurd (by rw [g2, ec]) (h2 cg z g1)
            · omega
          have d1 : ck ≤ d := by
            rcases Nat.lt_or_ge d ck with z | z
            · exact absurd ⟨ho, e⟩ (k3 d z)
            · exact z
          exact h3 (by rw [Nat.max_eq_right (by omega)]; exact c2)
      · by_cases ed : L d = g
        · rw [if_pos ed, if_neg ec] at e
          have c1 : ck ≤ c := by
            rcases Nat.lt_or_ge c ck with z | z
            · exact absurd ⟨h1, e.symm⟩ (k3 c z)
            · exact z
          have c2 : c = ck := by
            rcases Nat.lt_or_ge ck c with z | z
            · exact absurd (by rw [k2]; exact e) (h2 ck z k1)
            · omega
          have d1 : cg ≤ d := by
            rcases Nat.lt_or_ge d cg with z | z
            · exact absurd ⟨ho, ed⟩ (g3 d z)
            · exact z
          exact h3 (by rw [Nat.max_eq_left (by omega)]; exact c2)
        · rw [if_neg ed, if_neg ec] at e
          exact h2 d hd ho e
