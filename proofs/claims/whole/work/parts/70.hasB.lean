def hasB (l : List Nat) (P : Nat → Prop) (lo hi : Int64) : Prop := ∀ r, r < 128 → (bb lo hi r = true ↔ ∃ w, l[r]? = some w ∧ P w)
theorem bb_and (a b c d : Int64) (r : Nat) : bb (a &&& c) (b &&& d) r = (bb a b r && bb c d r) := by
  unfold bb
  split
  · exact gbt_and a c r
  · exact gbt_and b d (r - 64)
theorem bb_not (a b : Int64) {r : Nat} (h : r < 128) : bb (a ^^^ (-1)) (b ^^^ (-1)) r = !(bb a b r) := by
  unfold bb
  split
  · exact gbt_not a (by omega)
  · exact gbt_not b (by omega)
theorem hasB_and {l : List Nat} {P Q : Nat → Prop} {lo hi lo' hi' : Int64} (h : hasB l P lo hi) (h' : hasB l Q lo' hi') : hasB l (fun w => P w ∧ Q w) (lo &&& lo') (hi &&& hi') := by
  intro r hr
  rw [bb_and, Bool.and_eq_true, h r hr, h' r hr]
  constructor
  · rintro ⟨⟨w, a1, a2⟩, w', b1, b2⟩
    rw [a1] at b1
    cases b1
    exact ⟨w, a1, a2, b2⟩
  · rintro ⟨w, a1, a2, a3⟩
    exact ⟨⟨w, a1, a2⟩, w, a1, a3⟩
theorem hasB_andn {l : List Nat} {P Q : Nat → Prop} {lo hi lo' hi' : Int64} (h : hasB l P lo hi) (h' : hasB l Q lo' hi') : hasB l (fun w => P w ∧ ¬ Q w) (lo &&& (lo' ^^^ (-1))) (hi &&& (hi' ^^^ (-1))) := by
  intro r hr
  rw [bb_and, Bool.and_eq_true, bb_not _ _ hr, Bool.not_eq_true', ← Bool.not_eq_true, h r hr, h' r hr]
  constructor
  · rintro ⟨⟨w, a1, a2⟩, b⟩
    exact ⟨w, a1, a2, fun z => b ⟨w, a1, z⟩⟩
  · rintro ⟨w, a1, a2, a3⟩
    refine ⟨⟨w, a1, a2⟩, fun z => ?_⟩
    obtain ⟨w', b1, b2⟩ := z
    rw [a1] at b1
    cases b1
    exact a3 b2
theorem hasB_congr {l : List Nat} {P Q : Nat → Prop} {lo hi : Int64} (h : hasB l P lo hi) (hPQ : ∀ w, w ∈ l → (P w ↔ Q w)) : hasB l Q lo hi := by
  intro r hr
  rw [h r hr]
  constructor
  · rintro ⟨w, a1, a2⟩
    exact ⟨w, a1, (hPQ w (List.mem_of_getElem? a1)).mp a2⟩
  · rintro ⟨w, a1, a2⟩
    exact ⟨w, a1, (hPQ w (List.mem_of_getElem? a1)).mpr a2⟩
theorem bb_bit {xl xh : Int64} {r i : Nat} (hl : ∀ i, gbt xl i = (decide (i = r) && decide (i < 64))) (hh : ∀ i, gbt xh i = (decide (i + 64 = r) && decide (i < 64))) (hi : i < 128) : bb xl xh i = true ↔ i = r := by
  unfold bb
  split
  · rw [hl]; simp; omega
  · rw [hh]; simp; omega
theorem nodup_get {l : List Nat} (h : l.Nodup) {i j w : Nat} (hi : l[i]? = some w) (hj : l[j]? = some w) : i = j := by
  have hi' : i < l.length := by
    rcases Nat.lt_or_ge i l.length with z | z
    · exact z
    · rw [List.getElem?_eq_none z] at hi; cases hi
  exact (List.getElem?_inj hi' h).mp (hi.trans hj.symm)
theorem hasB_bit {l : List Nat} (hd : l.Nodup) {xl xh : Int64} {r w : Nat} (hw : l[r]? = some w) (hl : ∀ i, gbt xl i = (decide (i = r) && decide (i < 64))) (hh : ∀ i, gbt xh i = (decide (i + 64 = r) && decide (i < 64))) : hasB l (fun a => a = w) xl xh := by
  intro i hi
  rw [bb_bit hl hh hi]
  constructor
  · rintro rfl
    exact ⟨w, hw, rfl⟩
  · rintro ⟨a, a1, a2⟩
    rw [a2] at a1
    exact nodup_get hd a1 hw
theorem hasB_or {l : List Nat} {P Q : Nat → Prop} {lo hi lo' hi' : Int64} (h : hasB l P lo hi) (h' : hasB l Q lo' hi') : hasB l (fun w => P w ∨ Q w) (lo ||| lo') (hi ||| hi') := by
  intro r hr
  have e : bb (lo ||| lo') (hi ||| hi') r = (bb lo hi r || bb lo' hi' r) := by
    unfold bb
    split
    · exact gbt_or lo lo' r
    · exact gbt_or hi hi' (r - 64)
  rw [e, Bool.or_eq_true, h r hr, h' r hr]
  constructor
  · rintro (⟨w, a1, a2⟩ | ⟨w, a1, a2⟩)
    · exact ⟨w, a1, Or.inl a2⟩
    · exact ⟨w, a1, Or.inr a2⟩
  · rintro ⟨w, a1, a2 | a2⟩
    · exact Or.inl ⟨w, a1, a2⟩
    · exact Or.inr ⟨w, a1, a2⟩
theorem hasB_0 {l : List Nat} : hasB l (fun _ => False) 0 0 := by
  intro r hr
  constructor
  · intro z
    unfold bb at z
    rw [gbt_0, gbt_0] at z
    split at z <;> cases z
  · rintro ⟨_, _, z⟩
    exact z.elim
theorem range_filter_ext {p : Nat → Bool} {m : Nat} (h : ∀ i, m ≤ i → p i = false) : ∀ t, (List.range (m + t)).filter p = (List.range m).filter p := by
  intro t
  induction t with
  | zero => rfl
  | succ t ih =>
    rw [← Nat.add_assoc, List.range_succ, List.filter_append, ih]
    have := h (m + t) (by omega)
    simp [this]
theorem list_range (l : List Nat) : (List.range l.length).map (fun r => (l[r]?).getD 0) = l := by
  refine List.ext_getElem? (fun i => ?_)
  rw [List.getElem?_map]
  rcases Nat.lt_or_ge i l.length with z | z
  · rw [List.getElem?_range z, List.getElem?_eq_getElem z]
    simp [z]
  · rw [List.getElem?_eq_none (by rw [List.length_range]; exact z), List.getElem?_eq_none z]
    rfl
theorem rks_filter {l : List Nat} {P : Nat → Prop} {lo hi : Int64} (hl : l.length ≤ 128) (h : hasB l P lo hi) : (rks lo hi).map (fun r => (l[r]?).getD 0) = l.filter (fun w => pB (P w)) := by
  have e1 : (List.range 128).filter (bb lo hi) = (List.range l.length).filter (fun r => pB (P ((l[r]?).getD 0))) := by
    have e2 : (List.range 128).filter (bb lo hi) = (List.range (l.length + (128 - l.length))).filter (fun r => decide (r < l.length) && pB (P ((l[r]?).getD 0))) := by
      rw [show l.length + (128 - l.length) = 128 by omega]
      refine List.filter_congr (fun r hr => ?_)
      rw [Bool.eq_iff_iff, h r (List.mem_range.mp hr), Bool.and_eq_true, decide_eq_true_iff, pB_iff]
      constructor
      · rintro ⟨w, a1, a2⟩
        refine ⟨?_, by rw [a1]; exact a2⟩
        rcases Nat.lt_or_ge r l.length with z | z
        · exact z
        · rw [List.getElem?_eq_none z] at a1; cases a1
      · rintro ⟨a1, a2⟩
        refine ⟨l[r], List.getElem?_eq_getElem a1, ?_⟩
        rw [List.getElem?_eq_getElem a1] at a2
        exact a2
    rw [e2, range_filter_ext (fun i hi => by rw [decide_eq_false (by omega)]; rfl)]
    refine List.filter_congr (fun r hr => ?_)
    rw [decide_eq_true (List.mem_range.mp hr)]
    rfl
  unfold rks
  rw [e1]
  have e3 : l.filter (fun w => pB (P w)) = ((List.range l.length).map (fun r => (l[r]?).getD 0)).filter (fun w => pB (P w)) := by rw [list_range]
  rw [e3, List.filter_map]
  rfl
theorem rks_get {lo hi : Int64} {r : Nat} (h : r ∈ rks lo hi) : r < 128 ∧ bb lo hi r = true := by
  unfold rks at h
  rw [List.mem_filter, List.mem_range] at h
  exact h
theorem ord_get {sc : Nat → Nat} {n i a : Nat} (h : (ordW sc n)[i]? = some a) : i < n ∧ a < n := by
  refine ⟨?_, ordW_mem.mp (List.mem_of_getElem? h)⟩
  rcases Nat.lt_or_ge i n with z | z
  · exact z
  · rw [List.getElem?_eq_none (by rw [ordW_len]; exact z)] at h; cases h
theorem hasB_len {n : Nat} {len sc : Nat → Nat} {g0 g1 : Nat → Int64} (h : setL (ordW sc n) len n g0 g1) {k : Nat} (hk : k < 7) : hasB (ordW sc n) (fun w => len w = k) (g0 k) (g1 k) := by
  intro r hr
  rw [h k hk r hr]
  constructor
  · rintro ⟨a, a1, a2, a3⟩
    exact ⟨a, a1, a3⟩
  · rintro ⟨a, a1, a2⟩
    exact ⟨a, a1, (ord_get a1).1, a2⟩
theorem hasB_key {n : Nat} {len : Nat → Nat} {lt : Nat → Nat → Nat} {sc : Nat → Nat} {g2 g3 : Nat → Int64} (h : setK (ordW sc n) len lt n 0 g2 g3) (hlt : ∀ w p, w < n → p < len w → 97 ≤ lt w p ∧ lt w p ≤ 122) {q c : Nat} (hq : q < 6) (h1 : 97 ≤ c) (h2 : c ≤ 122) : hasB (ordW sc n) (fun w => q < len w ∧ lt w q = c) (g2 (q * 26 + c - 97)) (g3 (q * 26 + c - 97)) := by
  intro r hr
  rw [h (q * 26 + c - 97) (by omega) r hr]
  constructor
  · rintro ⟨a, p, a1, a2, a3, a4⟩
    have hb := hlt a p (ord_get a1).2 a2
    unfold keyW at a3
    have e : p = q := by omega
    subst e
    exact ⟨a, a1, a2, by omega⟩
  · rintro ⟨a, a1, a2, a3⟩
    refine ⟨a, q, a1, a2, ?_, Or.inl (ord_get a1).1⟩
    unfold keyW
    rw [a3]
