def grM (A : AS) (fd : Option (Nat → Nat)) : Int32 := match fd with | none => -1 | some G => nI (sumF A.sc G A.S.length)
def MC (A : AS) (s : Sg) (u : zz_St) : Prop := MB A u ∧ fdM A s.fd u ∧ sg_i u 8 = nI s.st ∧ sg_i u 9 = nI s.mn
def samM (lv : Nat) (u u' : zz_St) : Prop := (∀ j, j < lv → sg_a u' 13 j = sg_a u 13 j ∧ sg_a u' 14 j = sg_a u 14 j ∧ sg_a u' 15 j = sg_a u 15 j) ∧ ∀ j, j < 80 * lv → sg_a u' 16 j = sg_a u 16 j
theorem samM_refl {lv : Nat} {u : zz_St} : samM lv u u := ⟨fun _ _ => ⟨rfl, rfl, rfl⟩, fun _ _ => rfl⟩
theorem samM_trans {lv : Nat} {u v w : zz_St} (h : samM lv u v) (h2 : samM lv v w) : samM lv u w := ⟨fun j hj => ⟨(h2.1 j hj).1.trans (h.1 j hj).1, (h2.1 j hj).2.1.trans (h.1 j hj).2.1, (h2.1 j hj).2.2.trans (h.1 j hj).2.2⟩, fun j hj => (h2.2 j hj).trans (h.2 j hj)⟩
theorem samM_less {lv : Nat} {u v : zz_St} (h : samM (lv + 1) u v) : samM lv u v := ⟨fun j hj => h.1 j (by omega), fun j hj => h.2 j (by omega)⟩
theorem fdM_of {A : AS} {fd : Option (Nat → Nat)} {u u' : zz_St} (h : fdM A fd u) (h7 : sg_i u' 7 = sg_i u 7) (h11 : sg_a u' 11 = sg_a u 11) : fdM A fd u' := by
  unfold fdM at h ⊢
  rw [h7, h11]
  exact h
theorem okF_sumM {A : AS} {u : zz_St} (hB : MB A u) {F : Nat → Nat} (h : okF A F) : sumF A.sc F A.S.length ≤ 24000 := by
  have h24 := S_len hB.1.1
  have := sumF_le (sc := A.sc) (F := F) (n := A.S.length) (fun k hk => by
    obtain ⟨e, he⟩ := S_get hk
    exact (hB.2.1.2.2 (F k) (h.1 k e he).1).2.2.1)
  omega
theorem sp_M_sumNow {A : AS} {asg : Nat → Option Nat} {u : zz_St} {post : Int32 → zz_St → Prop} (hB : MB A u) (hn : nowR A asg u) (hcs : cons A asg) (hf : ∀ k, k < A.S.length → ∃ w, asg k = some w) (h : post (nI (sumF A.sc (fnA asg) A.S.length)) u) : wp_M_sumNow u post := by
  have h24 := S_len hB.1.1
  have e5 := hB.1.2.1
  obtain ⟨n80, e4, hwd⟩ := id hB.2.1
  unfold wp_M_sumNow
  refine ⟨A.S.length + 1, ?_⟩
  suffices ∀ t j, j + t = A.S.length → wp_M_sumNow_4_f post (t + 1) (nI (sumF A.sc (fnA asg) j)) (nI j) u from this A.S.length 0 (Nat.zero_add _)
  intro t
  induction t with
  | zero =>
    intro j hj
    show wp_M_sumNow_4 post _ _ _ _
    unfold wp_M_sumNow_4
    rw [e5]
    have e : j = A.S.length := by omega
    subst e
    exact pk_le A.S.length A.S.length (fun _ => h) (fun z => absurd z (by omega))
  | succ t ih =>
    intro j hj
    show wp_M_sumNow_4 post _ _ _ _
    unfold wp_M_sumNow_4
    obtain ⟨w, ha⟩ := hf j (by omega)
    obtain ⟨e, he⟩ := S_get (A := A) (k := j) (by omega)
    have hwn := (hcs j e w he ha).1
    obtain ⟨-, -, sw, -, ew, -⟩ := hwd w hwn
    have z := ih (j + 1) (by omega)
    have eF : fnA asg j = w := by unfold fnA; rw [ha]; rfl
    rw [sumF, eF] at z
    rw [e5, nI_clamp (n := j) (by omega), hn j (by omega), ha, oI_some, nI_clamp (n := w) (by omega), ew, nI_add, nI_1]
    refine pk_le A.S.length j (fun z => absurd z (by omega)) (fun _ => ⟨vin (by omega), vin (by omega), fun v ev => ?_⟩)
    subst ev
    exact z
theorem sp_M_leaf {A : AS} {asg : Nat → Option Nat} {s : Sg} {lv : Nat} {x1 x2 x4 : Int32} {u : zz_St} {post : Int32 → zz_St → Prop} {kn : Int32 → Int32 → Int32 → Int32 → Int32 → zz_St → Prop} (hC : MC A s u) (hn : nowR A asg u) (hcs : cons A asg) (hf : ∀ k, k < A.S.length → ∃ w, asg k = some w) (hg : gdS A s)
    (h : ∀ u', MC A (takeA A asg s) u' → nowR A asg u' → samM lv u u' → wp_M_search_104 post kn x1 x2 (grM A (takeA A asg s).fd) x4 u') :
    wp_M_sumNow (ss_i u 9 (nI (s.mn + 1))) (fun r10 s9 => ((r10 ≤ (grM A s.fd) → (wp_M_search_104 post kn x1 x2 (grM A s.fd) x4 s9)) ∧ (¬ r10 ≤ (grM A s.fd) → (wp_M_sumNow s9 (fun r13 s12 => (∃ n : Nat, wp_M_search_77_f post kn n x1 x2 r13 x4 0 (ss_i s12 7 1))))))) := by
  obtain ⟨hB, cf, c8, c9⟩ := hC
  have h24 := S_len hB.1.1
  have hok := okF_full hcs hf
  have hsum := okF_sumM hB hok
  have hn' : nowR A asg (ss_i u 9 (nI (s.mn + 1))) := by unfold nowR; simp (decide := true) only [sx_il, sx_ia, sx_ib, sy_i, sz_i, sx_li, sx_la, sx_lb, sy_l, sz_l, sx_ai, sx_al, sx_ab, sy_a, sz_a, sx_bi, sx_bl, sx_ba, sy_b, sz_b]; exact hn
  have less : ¬ bet A s.fd (fnA asg) → wp_M_search_104 post kn x1 x2 (grM A s.fd) x4 (ss_i u 9 (nI (s.mn + 1))) := fun nb => by
    have e1 : (takeA A asg s).fd = s.fd := by
      show (if pB (bet A s.fd (fnA asg)) = true then some (fnA asg) else s.fd) = s.fd
      rw [if_neg (fun z => nb (pB_iff.mp z))]
    rw [e1] at h
    refine h _ ⟨MB_i9 hB, ?_, by simp (decide := true) only [sx_il, sx_ia, sx_ib, sy_i, sz_i, sx_li, sx_la, sx_lb, sy_l, sz_l, sx_ai, sx_al, sx_ab, sy_a, sz_a, sx_bi, sx_bl, sx_ba, sy_b, sz_b]; exact c8, by simp (decide := true) only [sx_il, sx_ia, sx_ib, sy_i, sz_i, sx_li, sx_la, sx_lb, sy_l, sz_l, sx_ai, sx_al, sx_ab, sy_a, sz_a, sx_bi, sx_bl, sx_ba, sy_b, sz_b]; rfl⟩ hn' ?_
    · rw [e1]; exact fdM_of cf (by simp (decide := true) only [sx_il, sx_ia, sx_ib, sy_i, sz_i, sx_li, sx_la, sx_lb, sy_l, sz_l, sx_ai, sx_al, sx_ab, sy_a, sz_a, sx_bi, sx_bl, sx_ba, sy_b, sz_b]) (by simp (decide := true) only [sx_il, sx_ia, sx_ib, sy_i, sz_i, sx_li, sx_la, sx_lb, sy_l, sz_l, sx_ai, sx_al, sx_ab, sy_a, sz_a, sx_bi, sx_bl, sx_ba, sy_b, sz_b])
    · unfold samM; simp (decide := true) only [sx_il, sx_ia, sx_ib, sy_i, sz_i, sx_li, sx_la, sx_lb, sy_l, sz_l, sx_ai, sx_al, sx_ab, sy_a, sz_a, sx_bi, sx_bl, sx_ba, sy_b, sz_b]; exact ⟨fun _ _ => trivial, fun _ _ => trivial⟩
  have more : bet A s.fd (fnA asg) → wp_M_sumNow (ss_i u 9 (nI (s.mn + 1))) (fun r13 s12 => (∃ n : Nat, wp_M_search_77_f post kn n x1 x2 r13 x4 0 (ss_i s12 7 1))) := fun yb => by
    have e1 : (takeA A asg s).fd = some (fnA asg) := by
      show (if pB (bet A s.fd (fnA asg)) = true then some (fnA asg) else s.fd) = some (fnA asg)
      rw [if_pos (pB_iff.mpr yb)]
    refine sp_M_sumNow (A := A) (asg := asg) (MB_i9 hB) hn' hcs hf ⟨37, ?_⟩
    suffices ∀ t c f, c + t = 36 → (∀ d, d < c → f d = sg_a u 10 d) → wp_M_search_77_f post kn (t + 1) x1 x2 (nI (sumF A.sc (fnA asg) A.S.length)) x4 (nI c) (ss_a (ss_i (ss_i u 9 (nI (s.mn + 1))) 7 1) 11 f) by
      have z := this 36 0 (sg_a (ss_i (ss_i u 9 (nI (s.mn + 1))) 7 1) 11) rfl (fun d hd => absurd hd (Nat.not_lt_zero d))
      rw [ss_a_id] at z
      exact z
    intro t
    induction t with
    | zero =>
      intro c f hc hfd
      show wp_M_search_77 post _ _ _ _ _ _ _ _
      unfold wp_M_search_77
      have e : c = 36 := by omega
      subst e
      refine ⟨fun _ => ?_, fun z => absurd (Int32.le_refl _) z⟩
      rw [e1] at h
      refine h _ ⟨MB_a11 (MB_i7 (MB_i9 hB)), ?_, by simp (decide := true) only [sx_il, sx_ia, sx_ib, sy_i, sz_i, sx_li, sx_la, sx_lb, sy_l, sz_l, sx_ai, sx_al, sx_ab, sy_a, sz_a, sx_bi, sx_bl, sx_ba, sy_b, sz_b]; exact c8, by simp (decide := true) only [sx_il, sx_ia, sx_ib, sy_i, sz_i, sx_li, sx_la, sx_lb, sy_l, sz_l, sx_ai, sx_al, sx_ab, sy_a, sz_a, sx_bi, sx_bl, sx_ba, sy_b, sz_b]; rfl⟩ (by unfold nowR; simp (decide := true) only [sx_il, sx_ia, sx_ib, sy_i, sz_i, sx_li, sx_la, sx_lb, sy_l, sz_l, sx_ai, sx_al, sx_ab, sy_a, sz_a, sx_bi, sx_bl, sx_ba, sy_b, sz_b]; exact hn) (by unfold samM; simp (decide := true) only [sx_il, sx_ia, sx_ib, sy_i, sz_i, sx_li, sx_la, sx_lb, sy_l, sz_l, sx_ai, sx_al, sx_ab, sy_a, sz_a, sx_bi, sx_bl, sx_ba, sy_b, sz_b]; exact ⟨fun _ _ => trivial, fun _ _ => trivial⟩)
      rw [e1]
      refine ⟨fun z => (by cases z), fun F hF => ⟨by simp (decide := true) only [sx_il, sx_ia, sx_ib, sy_i, sz_i, sx_li, sx_la, sx_lb, sy_l, sz_l, sx_ai, sx_al, sx_ab, sy_a, sz_a, sx_bi, sx_bl, sx_ba, sy_b, sz_b], fun k hk => ?_⟩⟩
      have hF' : fnA asg = F := Option.some.inj hF
      subst hF'
      simp (decide := true) only [sx_il, sx_ia, sx_ib, sy_i, sz_i, sx_li, sx_la, sx_lb, sy_l, sz_l, sx_ai, sx_al, sx_ab, sy_a, sz_a, sx_bi, sx_bl, sx_ba, sy_b, sz_b]
      rw [hfd k (by omega), hn k hk]
      obtain ⟨w, hw⟩ := hf k hk
      unfold fnA
      rw [hw]
      rfl
    | succ t ih =>
      intro c f hc hfd
      show wp_M_search_77 post _ _ _ _ _ _ _ _
      unfold wp_M_search_77
      simp (decide := true) only [sx_il, sx_ia, sx_ib, sy_i, sz_i, sx_li, sx_la, sx_lb, sy_l, sz_l, sx_ai, sx_al, sx_ab, sy_a, sz_a, sx_bi, sx_bl, sx_ba, sy_b, sz_b]
      rw [nI_clamp (n := c) (by omega), nI_1]
      refine pk_le 36 c (fun z => absurd z (by omega)) (fun _ => ⟨vin (by omega), fun v ev => ⟨vin (by omega), ?_⟩⟩)
      subst ev
      rw [so_a]
      refine ih (c + 1) _ (by omega) (fun d hd => ?_)
      by_cases q : d = c
      · subst q; rw [pk_us]
      · rw [pk_un q]; exact hfd d (by omega)
  refine sp_M_sumNow (A := A) (asg := asg) (MB_i9 hB) hn' hcs hf ?_
  cases hfd : s.fd with
  | none =>
    rw [hfd] at less more
    refine ⟨fun z => ?_, fun _ => more (fun G hG => by cases hG)⟩
    exact absurd z (by
      intro y
      have y2 : (nI (sumF A.sc (fnA asg) A.S.length)).toInt ≤ (-1 : Int32).toInt := Int32.le_iff_toInt_le.mp y
      rw [nI_toInt (by omega)] at y2
      have : (-1 : Int32).toInt = -1 := by decide
      omega)
  | some G =>
    rw [hfd] at less more
    have hG := okF_sumM hB (hg.1 G hfd)
    refine pk_le (sumF A.sc (fnA asg) A.S.length) (sumF A.sc G A.S.length) (fun z => less (fun y => ?_)) (fun z => more (fun G' hG' => ?_))
    · have := y G rfl
      omega
    · cases hG'
      exact z
def frM (A : AS) (asg : Nat → Option Nat) (k lv i : Nat) (u : zz_St) : Prop := sg_a u 13 lv = nI k ∧ sg_a u 14 lv = nI (cL A asg k).length ∧ sg_a u 15 lv = nI i ∧ hasL (sg_a u 16) (80 * lv) (cL A asg k) ∧ ∀ j, j < A.S.length → j ≠ k → sg_a u 10 j = oI (asg j)
theorem frM_sam {A : AS} {asg : Nat → Option Nat} {k lv i w : Nat} {u u' : zz_St} (h80 : A.n ≤ 80) (h : frM A asg k lv i u) (hs : samM (lv + 1) u u') (hn : nowR A (setA asg k w) u') : frM A asg k lv i u' := by
  obtain ⟨h1, h2, h3, h4, h5⟩ := h
  obtain ⟨s1, s2⟩ := hs
  obtain ⟨a1, a2, a3⟩ := s1 lv (by omega)
  refine ⟨a1.trans h1, a2.trans h2, a3.trans h3, fun j a hj => ?_, fun j hj hjk => ?_⟩
  · have := (List.getElem?_eq_some_iff.mp hj).1
    have hl := cL_len (A := A) (asg := asg) (k := k)
    rw [s2 (80 * lv + j) (by omega)]
    exact h4 j a hj
  · rw [hn j hj]
    unfold setA
    rw [if_neg hjk]
theorem step_119 {A : AS} {asg : Nat → Option Nat} {most k lv i w : Nat} {s : Sg} {x2 x3 : Int32} {u : zz_St} {post : Int32 → zz_St → Prop} {kn : Int32 → Int32 → Int32 → Int32 → Int32 → zz_St → Prop} (hm : most ≤ 20000) (h24 : A.S.length ≤ 24) (h80 : A.n ≤ 80) (hlv : lv < A.S.length) (hk : k < A.S.length) (hC : MC A s u) (hF : frM A asg k lv i u) (hw : (cL A asg k)[i]? = some w) (hst : s.st < most)
    (h : ∀ u1, MC A (mkG (s.st + 1) s.mn s.fd s.ran) u1 → nowR A (setA asg k w) u1 → frM A asg k lv (i + 1) u1 → samM lv u u1 → kn (nI most) x2 x3 (nI (lv + 1)) 1 u1) : wp_M_search_119 post kn (nI most) x2 x3 (nI lv) u := by
  obtain ⟨hB, cf, c8, c9⟩ := hC
  obtain ⟨f1, f2, f3, f4, f5⟩ := hF
  have hi := (List.getElem?_eq_some_iff.mp hw).1
  have hl := cL_len (A := A) (asg := asg) (k := k)
  have ei : 80 * nI lv + nI i = nI (80 * lv + i) := by rw [show (80 : Int32) = nI 80 from rfl, pk_mul, nI_add]
  unfold wp_M_search_119
  rw [nI_clamp (n := lv) (by omega), f1, f2, f3, nI_clamp (n := k) (by omega), c8, ei, nI_clamp (n := 80 * lv + i) (by omega), f4 i w hw, nI_1 i, nI_1 s.st, nI_1 lv]
  refine ⟨vin (by omega), vin (by omega), vin (by omega), vin (by omega), pk_eq i (cL A asg k).length (fun z => absurd z (by omega)) (fun _ => pk_eq s.st most (fun z => absurd z (by omega)) (fun _ => ⟨vin (by omega), vin (by omega), vin (by omega), fun v ev => ⟨vin (by omega), vin (by omega), fun v2 ev2 => ⟨vin (by omega), fun v3 ev3 => ?_⟩⟩⟩))⟩
  subst ev ev2 ev3
  rw [so_a]
  refine h _ ⟨MB_i8 (MB_a15 (MB_a10 hB)), fdM_of cf (by simp (decide := true) only [sx_il, sx_ia, sx_ib, sy_i, sz_i, sx_li, sx_la, sx_lb, sy_l, sz_l, sx_ai, sx_al, sx_ab, sy_a, sz_a, sx_bi, sx_bl, sx_ba, sy_b, sz_b]) (by simp (decide := true) only [sx_il, sx_ia, sx_ib, sy_i, sz_i, sx_li, sx_la, sx_lb, sy_l, sz_l, sx_ai, sx_al, sx_ab, sy_a, sz_a, sx_bi, sx_bl, sx_ba, sy_b, sz_b]), by simp (decide := true) only [sx_il, sx_ia, sx_ib, sy_i, sz_i, sx_li, sx_la, sx_lb, sy_l, sz_l, sx_ai, sx_al, sx_ab, sy_a, sz_a, sx_bi, sx_bl, sx_ba, sy_b, sz_b]; rfl, by simp (decide := true) only [sx_il, sx_ia, sx_ib, sy_i, sz_i, sx_li, sx_la, sx_lb, sy_l, sz_l, sx_ai, sx_al, sx_ab, sy_a, sz_a, sx_bi, sx_bl, sx_ba, sy_b, sz_b]; exact c9⟩ ?_ ⟨by simp (decide := true) only [sx_il, sx_ia, sx_ib, sy_i, sz_i, sx_li, sx_la, sx_lb, sy_l, sz_l, sx_ai, sx_al, sx_ab, sy_a, sz_a, sx_bi, sx_bl, sx_ba, sy_b, sz_b]; exact f1, by simp (decide := true) only [sx_il, sx_ia, sx_ib, sy_i, sz_i, sx_li, sx_la, sx_lb, sy_l, sz_l, sx_ai, sx_al, sx_ab, sy_a, sz_a, sx_bi, sx_bl, sx_ba, sy_b, sz_b]; exact f2, by simp (decide := true) only [sx_il, sx_ia, sx_ib, sy_i, sz_i, sx_li, sx_la, sx_lb, sy_l, sz_l, sx_ai, sx_al, sx_ab, sy_a, sz_a, sx_bi, sx_bl, sx_ba, sy_b, sz_b]; exact pk_us, by simp (decide := true) only [sx_il, sx_ia, sx_ib, sy_i, sz_i, sx_li, sx_la, sx_lb, sy_l, sz_l, sx_ai, sx_al, sx_ab, sy_a, sz_a, sx_bi, sx_bl, sx_ba, sy_b, sz_b]; exact f4, ?_⟩ ?_
  · unfold nowR
    simp (decide := true) only [sx_il, sx_ia, sx_ib, sy_i, sz_i, sx_li, sx_la, sx_lb, sy_l, sz_l, sx_ai, sx_al, sx_ab, sy_a, sz_a, sx_bi, sx_bl, sx_ba, sy_b, sz_b]
    intro j hj
    unfold setA upd
    by_cases q : j = k
    · rw [if_pos q, if_pos q]; rfl
    · rw [if_neg q, if_neg q, if_neg q]; exact f5 j hj q
  · simp (decide := true) only [sx_il, sx_ia, sx_ib, sy_i, sz_i, sx_li, sx_la, sx_lb, sy_l, sz_l, sx_ai, sx_al, sx_ab, sy_a, sz_a, sx_bi, sx_bl, sx_ba, sy_b, sz_b]
    intro j hj q
    rw [pk_un q, pk_un q]
    exact f5 j hj q
  · unfold samM
    simp (decide := true) only [sx_il, sx_ia, sx_ib, sy_i, sz_i, sx_li, sx_la, sx_lb, sy_l, sz_l, sx_ai, sx_al, sx_ab, sy_a, sz_a, sx_bi, sx_bl, sx_ba, sy_b, sz_b]
    refine ⟨fun j hj => ⟨trivial, trivial, pk_un (by omega)⟩, fun _ _ => trivial⟩
theorem sp_M_tries {A : AS} {all : Bool} {most lv k : Nat} {asg : Nat → Option Nat} {post : Int32 → zz_St → Prop} {rec : Nat → Sg → Bool × Sg} (hm : most ≤ 20000) (h24 : A.S.length ≤ 24) (h80 : A.n ≤ 80) (hlv : lv < A.S.length) (hk : k < A.S.length) (hn : asg k = none)
    (hinv : ∀ w, w ∈ cL A asg k → ∀ s : Sg, gdS A s → s.st ≤ most → gdS A (rec w s).2 ∧ (rec w s).2.st ≤ most ∧ ((rec w s).1 = true → (rec w s).2.ran = s.ran))
    (hrec : ∀ w, w ∈ cL A asg k → ∀ s : Sg, gdS A s → s.st ≤ most → s.ran = false → ∃ c, ∀ m u, MC A s u → nowR A (setA asg k w) u → ((rec w s).1 = true → ∀ u', MC A (rec w s).2 u' → nowR A (setA asg k w) u' → samM (lv + 1) u u' → wp_M_search_27_f post m (nI most) (nI (if all = true then 1 else 0)) (grM A (rec w s).2.fd) (nI lv) 0 u') → ((rec w s).1 = false → ∀ u', MC A (rec w s).2 u' → post (nI (codeR (rec w s).2)) u') → wp_M_search_27_f post (m + c) (nI most) (nI (if all = true then 1 else 0)) (grM A s.fd) (nI (lv + 1)) 1 u) :
    ∀ {ws : List Nat} {i : Nat} {s : Sg}, i ≤ (cL A asg k).length → (cL A asg k).drop i = ws → gdS A s → s.st ≤ most → s.ran = false → ∃ c, ∀ m u, MC A s u → frM A asg k lv i u → ((tryL most rec ws s).1 = true → ∀ u', MC A (tryL most rec ws s).2 u' → nowR A asg u' → samM lv u u' → wp_M_search_27_f post m (nI most) (nI (if all = true then 1 else 0)) (grM A (tryL most rec ws s).2.fd) (nI lv + (-1)) 0 u') → ((tryL most rec ws s).1 = false → ∀ u', MC A (tryL most rec ws s).2 u' → post (nI (codeR (tryL most rec ws s).2)) u') → wp_M_search_119 post (wp_M_search_27_f post (m + c)) (nI most) (nI (if all = true then 1 else 0)) (grM A s.fd) (nI lv) u := by
  have hl := cL_len (A := A) (asg := asg) (k := k)
  have off : ∀ {s : Sg} {u : zz_St} {i : Nat}, MC A s u → frM A asg k lv i u → MC A s (ss_a u 10 (upd (sg_a u 10) k (-1))) ∧ nowR A asg (ss_a u 10 (upd (sg_a u 10) k (-1))) ∧ samM lv u (ss_a u 10 (upd (sg_a u 10) k (-1))) := by
    intro s u i hC hF
    obtain ⟨hB, cf, c8, c9⟩ := hC
    refine ⟨⟨MB_a10 hB, fdM_of cf (by simp (decide := true) only [sx_il, sx_ia, sx_ib, sy_i, sz_i, sx_li, sx_la, sx_lb, sy_l, sz_l, sx_ai, sx_al, sx_ab, sy_a, sz_a, sx_bi, sx_bl, sx_ba, sy_b, sz_b]) (by simp (decide := true) only [sx_il, sx_ia, sx_ib, sy_i, sz_i, sx_li, sx_la, sx_lb, sy_l, sz_l, sx_ai, sx_al, sx_ab, sy_a, sz_a, sx_bi, sx_bl, sx_ba, sy_b, sz_b]), by simp (decide := true) only [sx_il, sx_ia, sx_ib, sy_i, sz_i, sx_li, sx_la, sx_lb, sy_l, sz_l, sx_ai, sx_al, sx_ab, sy_a, sz_a, sx_bi, sx_bl, sx_ba, sy_b, sz_b]; exact c8, by simp (decide := true) only [sx_il, sx_ia, sx_ib, sy_i, sz_i, sx_li, sx_la, sx_lb, sy_l, sz_l, sx_ai, sx_al, sx_ab, sy_a, sz_a, sx_bi, sx_bl, sx_ba, sy_b, sz_b]; exact c9⟩, ?_, by unfold samM; simp (decide := true) only [sx_il, sx_ia, sx_ib, sy_i, sz_i, sx_li, sx_la, sx_lb, sy_l, sz_l, sx_ai, sx_al, sx_ab, sy_a, sz_a, sx_bi, sx_bl, sx_ba, sy_b, sz_b]; exact ⟨fun _ _ => trivial, fun _ _ => trivial⟩⟩
    unfold nowR
    simp (decide := true) only [sx_il, sx_ia, sx_ib, sy_i, sz_i, sx_li, sx_la, sx_lb, sy_l, sz_l, sx_ai, sx_al, sx_ab, sy_a, sz_a, sx_bi, sx_bl, sx_ba, sy_b, sz_b]
    intro j hj
    by_cases q : j = k
    · rw [q, pk_us, hn]; rfl
    · rw [pk_un q]; exact hF.2.2.2.2 j hj q
  intro ws
  induction ws with
  | nil =>
    intro i s hi hd hg hs hr
    have hi2 : (cL A asg k).length ≤ i := List.drop_eq_nil_iff.mp hd
    refine ⟨0, fun m u hC hF hT hFl => ?_⟩
    obtain ⟨o1, o2, o3⟩ := off hC hF
    obtain ⟨f1, f2, f3, f4, f5⟩ := hF
    unfold wp_M_search_119
    rw [nI_clamp (n := lv) (by omega), f1, f2, f3, nI_clamp (n := k) (by omega)]
    exact ⟨vin (by omega), vin (by omega), vin (by omega), vin (by omega), pk_eq i (cL A asg k).length (fun _ => hT rfl _ o1 o2 o3) (fun z => absurd z (by omega))⟩
  | cons w t ih =>
    intro i s hi hd hg hs hr
    have hi2 : i < (cL A asg k).length := by
      rcases Nat.lt_or_ge i (cL A asg k).length with z | z
      · exact z
      · rw [List.drop_eq_nil_iff.mpr z] at hd; cases hd
    rw [List.drop_eq_getElem_cons hi2] at hd
    have hd1 : (cL A asg k)[i] = w := (List.cons.inj hd).1
    have hd2 := (List.cons.inj hd).2
    have hw : (cL A asg k)[i]? = some w := by rw [List.getElem?_eq_getElem hi2, hd1]
    have hmem := List.mem_of_getElem? hw
    by_cases hms : most ≤ s.st
    · have et : tryL most rec (w :: t) s = (false, mkG s.st s.mn s.fd true) := if_pos hms
      rw [et]
      refine ⟨0, fun m u hC hF hT hFl => ?_⟩
      obtain ⟨o1, o2, o3⟩ := off hC hF
      have c8 := hC.2.2.1
      obtain ⟨f1, f2, f3, f4, f5⟩ := hF
      unfold wp_M_search_119
      rw [nI_clamp (n := lv) (by omega), f1, f2, f3, nI_clamp (n := k) (by omega), c8]
      exact ⟨vin (by omega), vin (by omega), vin (by omega), vin (by omega), pk_eq i (cL A asg k).length (fun z => absurd z (by omega)) (fun _ => pk_eq s.st most (fun _ => hFl rfl _ o1) (fun z => absurd z (by omega)))⟩
    · have hg1 : gdS A (mkG (s.st + 1) s.mn s.fd s.ran) := hg
      have hs1 : (mkG (s.st + 1) s.mn s.fd s.ran).st ≤ most := by show s.st + 1 ≤ most; omega
      obtain ⟨c1, h1⟩ := hrec w hmem (mkG (s.st + 1) s.mn s.fd s.ran) hg1 hs1 hr
      obtain ⟨v1, v2, v3⟩ := hinv w hmem (mkG (s.st + 1) s.mn s.fd s.ran) hg1 hs1
      cases hr1 : (rec w (mkG (s.st + 1) s.mn s.fd s.ran)).1 with
      | false =>
        have et : tryL most rec (w :: t) s = (false, (rec w (mkG (s.st + 1) s.mn s.fd s.ran)).2) := by
          rw [tryL, if_neg hms, hr1, if_neg (by decide)]
        rw [et]
        refine ⟨c1, fun m u hC hF hT hFl => ?_⟩
        refine step_119 hm h24 h80 hlv hk hC hF hw (by omega) (fun u1 b1 b2 b3 b4 => ?_)
        exact h1 m u1 b1 b2 (fun z => by rw [hr1] at z; cases z) (fun _ u' z => hFl rfl u' z)
      | true =>
        have et : tryL most rec (w :: t) s = tryL most rec t (rec w (mkG (s.st + 1) s.mn s.fd s.ran)).2 := by
          rw [tryL, if_neg hms, hr1, if_pos rfl]
        rw [et]
        obtain ⟨c2, h2⟩ := ih (i := i + 1) (by omega) hd2 v1 v2 ((v3 hr1).trans hr)
        refine ⟨c2 + 1 + c1, fun m u hC hF hT hFl => ?_⟩
        refine step_119 hm h24 h80 hlv hk hC hF hw (by omega) (fun u1 b1 b2 b3 b4 => ?_)
        rw [show m + (c2 + 1 + c1) = m + c2 + 1 + c1 by omega]
        refine h1 (m + c2 + 1) u1 b1 b2 (fun _ u' d1 d2 d3 => ?_) (fun z => by rw [hr1] at z; cases z)
        show wp_M_search_27 post _ _ _ _ _ _ _
        unfold wp_M_search_27
        refine ⟨fun z => absurd z (nI_pos (by omega)), fun _ => ⟨fun _ => ?_, fun z => absurd rfl z⟩⟩
        exact h2 m u' d1 (frM_sam h80 b3 d3 d2) (fun z u2 y1 y2 y3 => hT z u2 y1 y2 (samM_trans b4 (samM_trans (samM_less d3) y3))) hFl
theorem tryL_ran {most : Nat} {rec : Nat → Sg → Bool × Sg} : ∀ {ws : List Nat}, (∀ w, w ∈ ws → ∀ s, (rec w s).1 = true → (rec w s).2.ran = s.ran) → ∀ s, (tryL most rec ws s).1 = true → (tryL most rec ws s).2.ran = s.ran := by
  intro ws
  induction ws with
  | nil => intro _ s _; rfl
  | cons w t ih =>
    intro h s hs
    rw [tryL] at hs ⊢
    by_cases c : most ≤ s.st
    · rw [if_pos c] at hs; cases hs
    · rw [if_neg c] at hs ⊢
      by_cases c2 : (rec w (mkG (s.st + 1) s.mn s.fd s.ran)).1 = true
      · rw [if_pos c2] at hs ⊢
        exact (ih (fun w' hw' => h w' (List.mem_cons_of_mem _ hw')) _ hs).trans (h w List.mem_cons_self _ c2)
      · rw [if_neg c2] at hs; cases hs
theorem srch_ran {A : AS} {all : Bool} {most : Nat} : ∀ {f : Nat} {asg : Nat → Option Nat} {s : Sg}, (srch A all most f asg s).1 = true → (srch A all most f asg s).2.ran = s.ran := by
  intro f
  induction f with
  | zero => intro asg s _; rfl
  | succ f ih =>
    intro asg s hs
    rw [srch] at hs ⊢
    cases hk : (pkS A asg A.S.length).2 with
    | none => rfl
    | some k =>
      rw [hk] at hs
      exact tryL_ran (fun w _ s' hs' => ih hs') s hs
theorem sp_M_level {A : AS} {all : Bool} {most : Nat} {post : Int32 → zz_St → Prop} (hm : most ≤ 20000) (hVA : VA A) (hW : 1 ≤ A.W) (h24 : A.S.length ≤ 24) (h80 : A.n ≤ 80) : ∀ {f : Nat} {asg : Nat → Option Nat} {s : Sg} {lv : Nat}, lv + f = A.S.length → cons A asg → fre asg A.S.length = f → gdS A s → s.st ≤ most → s.ran = false → ∃ c, ∀ m u, MC A s u → nowR A asg u →
    ((srch A all most f asg s).1 = true → ∀ u', MC A (srch A all most f asg s).2 u' → nowR A asg u' → samM lv u u' → wp_M_search_27_f post m (nI most) (nI (if all = true then 1 else 0)) (grM A (srch A all most f asg s).2.fd) (nI lv + (-1)) 0 u') → ((srch A all most f asg s).1 = false → ∀ u', MC A (srch A all most f asg s).2 u' → post (nI (codeR (srch A all most f asg s).2)) u') → wp_M_search_27_f post (m + c) (nI most) (nI (if all = true then 1 else 0)) (grM A s.fd) (nI lv) 1 u := by
  intro f
  induction f with
  | zero =>
    intro asg s lv hlv hcs hfr hg hs hr
    have hfull := fre_0 hfr
    refine ⟨1, fun m u hC hn hT hF => ?_⟩
    have hB := hC.1
    show wp_M_search_27 post _ _ _ _ _ _ _
    unfold wp_M_search_27
    refine ⟨fun z => absurd z (nI_pos (by omega)), fun _ => ⟨fun z => absurd z (by decide), fun _ => ?_⟩⟩
    refine sp_M_open hB hVA hn hcs (by omega) (fun _ f => ⟨fun _ v ev => ?_, fun z => absurd rfl z⟩) (fun k hk => ?_)
    · have e9 : sg_i (ss_a u 12 f) 9 + 1 = nI (s.mn + 1) := by
        simp (decide := true) only [sx_il, sx_ia, sx_ib, sy_i, sz_i, sx_li, sx_la, sx_lb, sy_l, sz_l, sx_ai, sx_al, sx_ab, sy_a, sz_a, sx_bi, sx_bl, sx_ba, sy_b, sz_b]
        rw [hC.2.2.2, nI_1]
      rw [ev, e9]
      refine sp_M_leaf (A := A) (asg := asg) (s := s) (lv := lv) ⟨MB_a12 hB, fdM_of hC.2.1 (by simp (decide := true) only [sx_il, sx_ia, sx_ib, sy_i, sz_i, sx_li, sx_la, sx_lb, sy_l, sz_l, sx_ai, sx_al, sx_ab, sy_a, sz_a, sx_bi, sx_bl, sx_ba, sy_b, sz_b]) (by simp (decide := true) only [sx_il, sx_ia, sx_ib, sy_i, sz_i, sx_li, sx_la, sx_lb, sy_l, sz_l, sx_ai, sx_al, sx_ab, sy_a, sz_a, sx_bi, sx_bl, sx_ba, sy_b, sz_b]), by simp (decide := true) only [sx_il, sx_ia, sx_ib, sy_i, sz_i, sx_li, sx_la, sx_lb, sy_l, sz_l, sx_ai, sx_al, sx_ab, sy_a, sz_a, sx_bi, sx_bl, sx_ba, sy_b, sz_b]; exact hC.2.2.1, by simp (decide := true) only [sx_il, sx_ia, sx_ib, sy_i, sz_i, sx_li, sx_la, sx_lb, sy_l, sz_l, sx_ai, sx_al, sx_ab, sy_a, sz_a, sx_bi, sx_bl, sx_ba, sy_b, sz_b]; exact hC.2.2.2⟩ (by unfold nowR; simp (decide := true) only [sx_il, sx_ia, sx_ib, sy_i, sz_i, sx_li, sx_la, sx_lb, sy_l, sz_l, sx_ai, sx_al, sx_ab, sy_a, sz_a, sx_bi, sx_bl, sx_ba, sy_b, sz_b]; exact hn) hcs hfull hg (fun u' b1 b2 b3 => ?_)
      have b4 : samM lv u u' := samM_trans (by unfold samM; simp (decide := true) only [sx_il, sx_ia, sx_ib, sy_i, sz_i, sx_li, sx_la, sx_lb, sy_l, sz_l, sx_ai, sx_al, sx_ab, sy_a, sz_a, sx_bi, sx_bl, sx_ba, sy_b, sz_b]; exact ⟨fun _ _ => trivial, fun _ _ => trivial⟩) b3
      unfold wp_M_search_104
      cases hall : all with
      | true =>
        subst hall
        exact ⟨fun z => absurd z (by decide), fun _ => hT rfl u' b1 b2 b4⟩
      | false =>
        subst hall
        refine ⟨fun _ => ?_, fun z => absurd rfl z⟩
        have z := hF rfl u' b1
        have ec : codeR (srch A false most 0 asg s).2 = 0 := by
          show codeR (takeA A asg s) = 0
          unfold codeR
          rw [if_neg (show ¬ (takeA A asg s).ran = true from fun y => by
            have y2 : s.ran = true := y
            rw [hr] at y2
            cases y2), if_neg (show ¬ (takeA A asg s).mn = 0 from Nat.succ_ne_zero s.mn)]
        rw [ec] at z
        exact z
    · obtain ⟨k1, k2, -⟩ := pkS_some hk
      obtain ⟨w, hw⟩ := hfull k k1
      rw [hw] at k2
      cases k2
  | succ f ih =>
    intro asg s lv hlv hcs hfr hg hs hr
    obtain ⟨k, hk⟩ := pkS_fre h80 (asg := asg) (j := A.S.length) (by omega)
    obtain ⟨k1, k2, k3⟩ := pkS_some hk
    have es : srch A all most (f + 1) asg s = tryL most (fun w s => srch A all most f (setA asg k w) s) (cL A asg k) s := by
      rw [srch, hk]
    rw [es]
    have hsub : ∀ w, w ∈ cL A asg k → cons A (setA asg k w) ∧ fre (setA asg k w) A.S.length = f := fun w hw => by
      obtain ⟨m1, m2, m3⟩ := cL_mem.mp hw
      have := fre_set (w := w) k1 k2
      exact ⟨cons_set hW hcs m1 m2, by omega⟩
    obtain ⟨c, hc⟩ := sp_M_tries (A := A) (all := all) (asg := asg) (post := post) (lv := lv) (rec := fun w s => srch A all most f (setA asg k w) s) hm h24 h80 (by omega) k1 k2 (fun w hw s' hg' hs' => by
        obtain ⟨q1, q2, -⟩ := srch_inv (A := A) (all := all) (most := most) hW (hsub w hw).2 (hsub w hw).1 hg' hs'
        exact ⟨q1, q2, srch_ran⟩) (fun w hw s' hg' hs' hr' => by
        obtain ⟨c, hc⟩ := ih (asg := setA asg k w) (s := s') (lv := lv + 1) (by omega) (hsub w hw).1 (hsub w hw).2 hg' hs' hr'
        refine ⟨c, fun m u a1 a2 a3 a4 => hc m u a1 a2 (fun z u' y1 y2 y3 => ?_) a4⟩
        rw [nI_dec]
        exact a3 z u' y1 y2 y3) (ws := cL A asg k) (i := 0) (s := s) (Nat.zero_le _) rfl hg hs hr
    refine ⟨c + 1, fun m u hC hn hT hF => ?_⟩
    have hB := hC.1
    show wp_M_search_27 post (wp_M_search_27_f post (m + c)) _ _ _ _ _ _
    unfold wp_M_search_27
    refine ⟨fun z => absurd z (nI_pos (by omega)), fun _ => ⟨fun z => absurd z (by decide), fun _ => ?_⟩⟩
    refine sp_M_open hB hVA hn hcs (by omega) (fun z => by rw [hk] at z; cases z) (fun k' hk' f12 g hg1 hg2 => ⟨fun z => absurd z (by decide), fun _ => ?_⟩)
    rw [hk] at hk'
    cases hk'
    refine hc m _ ⟨MB_a14 (MB_a16 (MB_a15 (MB_a13 (MB_a12 hB)))), fdM_of hC.2.1 (by simp (decide := true) only [sx_il, sx_ia, sx_ib, sy_i, sz_i, sx_li, sx_la, sx_lb, sy_l, sz_l, sx_ai, sx_al, sx_ab, sy_a, sz_a, sx_bi, sx_bl, sx_ba, sy_b, sz_b]) (by simp (decide := true) only [sx_il, sx_ia, sx_ib, sy_i, sz_i, sx_li, sx_la, sx_lb, sy_l, sz_l, sx_ai, sx_al, sx_ab, sy_a, sz_a, sx_bi, sx_bl, sx_ba, sy_b, sz_b]), by simp (decide := true) only [sx_il, sx_ia, sx_ib, sy_i, sz_i, sx_li, sx_la, sx_lb, sy_l, sz_l, sx_ai, sx_al, sx_ab, sy_a, sz_a, sx_bi, sx_bl, sx_ba, sy_b, sz_b]; exact hC.2.2.1, by simp (decide := true) only [sx_il, sx_ia, sx_ib, sy_i, sz_i, sx_li, sx_la, sx_lb, sy_l, sz_l, sx_ai, sx_al, sx_ab, sy_a, sz_a, sx_bi, sx_bl, sx_ba, sy_b, sz_b]; exact hC.2.2.2⟩ ⟨by simp (decide := true) only [sx_il, sx_ia, sx_ib, sy_i, sz_i, sx_li, sx_la, sx_lb, sy_l, sz_l, sx_ai, sx_al, sx_ab, sy_a, sz_a, sx_bi, sx_bl, sx_ba, sy_b, sz_b]; exact pk_us, by simp (decide := true) only [sx_il, sx_ia, sx_ib, sy_i, sz_i, sx_li, sx_la, sx_lb, sy_l, sz_l, sx_ai, sx_al, sx_ab, sy_a, sz_a, sx_bi, sx_bl, sx_ba, sy_b, sz_b]; exact pk_us, by simp (decide := true) only [sx_il, sx_ia, sx_ib, sy_i, sz_i, sx_li, sx_la, sx_lb, sy_l, sz_l, sx_ai, sx_al, sx_ab, sy_a, sz_a, sx_bi, sx_bl, sx_ba, sy_b, sz_b]; exact pk_us, by simp (decide := true) only [sx_il, sx_ia, sx_ib, sy_i, sz_i, sx_li, sx_la, sx_lb, sy_l, sz_l, sx_ai, sx_al, sx_ab, sy_a, sz_a, sx_bi, sx_bl, sx_ba, sy_b, sz_b]; exact hg2, fun j hj _ => by simp (decide := true) only [sx_il, sx_ia, sx_ib, sy_i, sz_i, sx_li, sx_la, sx_lb, sy_l, sz_l, sx_ai, sx_al, sx_ab, sy_a, sz_a, sx_bi, sx_bl, sx_ba, sy_b, sz_b]; exact hn j hj⟩ (fun z u' y1 y2 y3 => hT z u' y1 y2 (samM_trans ?_ y3)) hF
    unfold samM
    simp (decide := true) only [sx_il, sx_ia, sx_ib, sy_i, sz_i, sx_li, sx_la, sx_lb, sy_l, sz_l, sx_ai, sx_al, sx_ab, sy_a, sz_a, sx_bi, sx_bl, sx_ba, sy_b, sz_b]
    exact ⟨fun j hj => ⟨pk_un (by omega), pk_un (by omega), pk_un (by omega)⟩, hg1⟩
theorem sp_M_search {A : AS} {all : Bool} {m : Nat} {u : zz_St} {post : Int32 → zz_St → Prop} (hB : MB A u) (hV : VA A) (hm : m ≤ 20000) (h : ∀ u', RM (aftR A (runA A all m).2) u' → post (nI (codeR (runA A all m).2)) u') : wp_M_search (nI m) (nI (if all = true then 1 else 0)) u post := by
  have h24 := S_len hB.1.1
  have h80 := hB.2.1.1
  have hW1 : 1 ≤ A.W := hB.1.1.1
  unfold wp_M_search
  refine sp_M_clearNow ?_
  obtain ⟨c, hc⟩ := sp_M_level (A := A) (all := all) (post := post) hm hV hW1 h24 h80 (f := A.S.length) (asg := fun _ => none) (s := mkG 0 0 none false) (lv := 0) (Nat.zero_add _) cons_none (fre_all _) ⟨fun G h => (by cases h), ⟨fun _ => rfl, fun _ => rfl⟩⟩ (Nat.zero_le m) rfl
  refine ⟨1 + c, hc 1 _ ⟨MB_i9 (MB_i8 (MB_i7 (MB_a10 hB))), ⟨fun _ => (by simp (decide := true) only [sx_il, sx_ia, sx_ib, sy_i, sz_i, sx_li, sx_la, sx_lb, sy_l, sz_l, sx_ai, sx_al, sx_ab, sy_a, sz_a, sx_bi, sx_bl, sx_ba, sy_b, sz_b]), fun F hF => (by cases hF)⟩, zr6 (by simp (decide := true) only [sx_il, sx_ia, sx_ib, sy_i, sz_i, sx_li, sx_la, sx_lb, sy_l, sz_l, sx_ai, sx_al, sx_ab, sy_a, sz_a, sx_bi, sx_bl, sx_ba, sy_b, sz_b]), zr6 (by simp (decide := true) only [sx_il, sx_ia, sx_ib, sy_i, sz_i, sx_li, sx_la, sx_lb, sy_l, sz_l, sx_ai, sx_al, sx_ab, sy_a, sz_a, sx_bi, sx_bl, sx_ba, sy_b, sz_b])⟩ ?_ (fun hd u' y1 _ _ => ?_) (fun _ u' y => h u' y)⟩
  · unfold nowR
    simp (decide := true) only [sx_il, sx_ia, sx_ib, sy_i, sz_i, sx_li, sx_la, sx_lb, sy_l, sz_l, sx_ai, sx_al, sx_ab, sy_a, sz_a, sx_bi, sx_bl, sx_ba, sy_b, sz_b]
    intro k hk
    rw [flI_in (by omega)]
    rfl
  · obtain ⟨a1, a2, a3⟩ := runA_inv (A := A) (all := all) (m := m) hW1
    have hrn : (runA A all m).2.ran = false := srch_ran hd
    have hp := h u' y1
    show wp_M_search_27 post _ _ _ _ _ _ _
    unfold wp_M_search_27
    refine ⟨fun _ => ?_, fun z => absurd (show (nI 0 + (-1)) < 0 by decide) z⟩
    unfold codeR at hp
    rw [if_neg (by rw [hrn]; decide)] at hp
    have hf := y1.2.1
    cases hfd : (runA A all m).2.fd with
    | none =>
      rw [if_pos (a1.2.mp hfd)] at hp
      have e7 : sg_i u' 7 = 0 := hf.1 hfd
      exact ⟨fun _ => hp, fun z => absurd e7 z⟩
    | some F =>
      rw [if_neg (fun z => by rw [a1.2.mpr z] at hfd; cases hfd)] at hp
      have e7 : sg_i u' 7 = 1 := (hf.2 F hfd).1
      rw [e7]
      exact ⟨fun z => absurd z (by decide), fun _ => hp⟩
theorem sp_M_limit {a0 : Int32} {P Q : Prop} (h1 : ∀ m : Nat, m ≤ 20000 → a0 = nI m → P) (h0 : ¬ okR a0 → Q) : (a0 < 0 → Q) ∧ (¬ a0 < 0 → ((a0 ≤ 20000 → P) ∧ (¬ a0 ≤ 20000 → Q))) := by
  refine ⟨fun c => h0 ?_, fun c0 => ?_⟩
  · rintro ⟨m, z1, rfl⟩
    exact nI_pos (by omega) c
  · obtain ⟨m, hm31, rfl⟩ := nI_of c0
    refine pk_le m 20000 (fun c => h1 m c rfl) (fun c => h0 ?_)
    rintro ⟨m', z1, z2⟩
    have := nI_inj (by omega) (by omega) z2
    omega
theorem sp_M_run {A : AS} {a0 : Int32} {u : zz_St} {post : Int32 → zz_St → Prop} (hR : RM A u) (hV : VA A) (h1 : ∀ m : Nat, m ≤ 20000 → a0 = nI m → ∀ u', RM (aftR A (runA A false m).2) u' → post (nI (codeR (runA A false m).2)) u') (h0 : ¬ okR a0 → post (-1) (ss_i u 0 0)) : wp_M_run a0 u post := by
  unfold wp_M_run
  refine sp_M_limit (fun m hm em => ?_) h0
  rw [em]
  exact sp_M_search (A := A) (all := false) (MB_i0 hR.1) hV hm (h1 m hm em)
theorem sp_M_best {A : AS} {a0 : Int32} {u : zz_St} {post : Int32 → zz_St → Prop} (hR : RM A u) (hV : VA A) (h1 : ∀ m : Nat, m ≤ 20000 → a0 = nI m → ∀ u', RM (aftR A (runA A true m).2) u' → post (nI (codeR (runA A true m).2)) u') (h0 : ¬ okR a0 → post (-1) (ss_i u 0 0)) : wp_M_best a0 u post := by
  unfold wp_M_best
  refine sp_M_limit (fun m hm em => ?_) h0
  rw [em]
  exact sp_M_search (A := A) (all := true) (MB_i0 hR.1) hV hm (h1 m hm em)
