theorem samC_refl {lv : Nat} {u : zz_St} : samC lv u u := fun _ _ => ⟨rfl, rfl⟩
theorem samC_trans {lv : Nat} {u v w : zz_St} (h : samC lv u v) (h2 : samC lv v w) : samC lv u w := fun i hi => ⟨(h2 i hi).1.trans (h i hi).1, (h2 i hi).2.trans (h i hi).2⟩
theorem rowC_sam {A : AS} {asg : Nat → Option Nat} {lv : Nat} {u v : zz_St} (h24 : A.S.length ≤ 24) (h : rowC A asg lv u) (hs : samC lv u v) : rowC A asg lv v := fun k hk ha => by
  obtain ⟨s1, s2⟩ := hs (lv * 24 + k) (by omega)
  rw [s1, s2]
  exact h k hk ha
theorem sp_S_loop {A : AS} {all : Bool} {most lv k : Nat} {e : Nat × Nat × Nat} {asg : Nat → Option Nat} {u : zz_St} {post : Int32 → zz_St → Prop} {WF : Int32 → zz_St → (Int32 → zz_St → Prop) → Prop} {rec : Nat → Sg → Bool × Sg} (hR : rowC A asg lv u) (h24 : A.S.length ≤ 24) (h80 : A.n ≤ 80) (hlv : lv < A.S.length) (hm : most ≤ 20000) (hk : A.S[k]? = some e) (hn : asg k = none)
    (hin : ∀ w s, w ∈ cL A asg k → gdS A s → s.st < most → gdS A (rec w (mkG (s.st + 1) s.mn s.fd s.ran)).2 ∧ (rec w (mkG (s.st + 1) s.mn s.fd s.ran)).2.st ≤ most)
    (hWF : ∀ w s, w ∈ cL A asg k → gdS A s → s.st < most → ∀ u1, CS A all most (setA asg k w) (mkG (s.st + 1) s.mn s.fd s.ran) u1 → rowC A (setA asg k w) (lv + 1) u1 → ∀ Q : Int32 → zz_St → Prop, (∀ u2, CS A all most (setA asg k w) (rec w (mkG (s.st + 1) s.mn s.fd s.ran)).2 u2 → samC (lv + 1) u1 u2 → Q (nI (if (rec w (mkG (s.st + 1) s.mn s.fd s.ran)).1 = true then 1 else 0)) u2) → WF (nI (lv + 1)) u1 Q) :
    ∀ (ws : List Nat) (x4 x6 : Int64) (s : Sg) (u' : zz_St), (rks x4 x6).map (fun r => ((ordW A.sc A.n)[r]?).getD 0) = ws → (∀ r, r ∈ rks x4 x6 → ∃ w, (ordW A.sc A.n)[r]? = some w ∧ fitA A asg k w ∧ ¬ usedA A asg w) → CS A all most asg s u' → samC lv u u' → gdS A s → s.st ≤ most →
      (∀ u'', CS A all most asg (tryL most rec ws s).2 u'' → samC lv u u'' → post (nI (if (tryL most rec ws s).1 = true then 1 else 0)) u'') → wp_S_fillFrom_86_f WF post (ws.length + 1) (nI lv) (nI k) x4 x6 1 (nI ws.length) u' := by
  intro ws
  induction ws with
  | nil =>
    intro x4 x6 s u' hmp hr hC hS hg hst h
    show wp_S_fillFrom_86 WF post _ _ _ _ _ _ _ _
    unfold wp_S_fillFrom_86
    refine ⟨fun _ => ⟨Or.inr rfl, h u' hC hS⟩, fun z => absurd ?_ z⟩
    exact Int32.le_refl _
  | cons w t ih =>
    intro x4 x6 s u' hmp hr hC hS hg hst h
    have hlen : (w :: t).length ≤ 128 := by
      rw [← hmp, List.length_map]
      exact Nat.le_trans (List.length_filter_le _ _) (by rw [List.length_range]; exact Nat.le_refl _)
    rw [List.length_cons] at hlen
    show wp_S_fillFrom_86 WF post (wp_S_fillFrom_86_f WF post (t.length + 1)) _ _ _ _ _ _ _
    have stop : ∀ v, CS A all most asg (tryL most rec (w :: t) s).2 v → samC lv u v → (tryL most rec (w :: t) s).1 = false → ∀ y4 y6, wp_S_fillFrom_86_f WF post (t.length + 1) (nI lv) (nI k) y4 y6 0 (nI t.length) v := by
      intro v h1 h2 h3 y4 y6
      show wp_S_fillFrom_86 WF post _ _ _ _ _ _ _ _
      unfold wp_S_fillFrom_86
      have z := h v h1 h2
      rw [h3] at z
      exact ⟨fun _ => ⟨Or.inl rfl, z⟩, fun _ => ⟨fun _ => ⟨Or.inl rfl, z⟩, fun z => absurd rfl z⟩⟩
    have main : ∀ (r : Nat) (y4 y6 : Int64) (Q : Int32 → zz_St → Prop), rks x4 x6 = r :: rks y4 y6 → (∀ g v, wp_S_fillFrom_86_f WF post (t.length + 1) (nI lv) (nI k) y4 y6 g (nI t.length) v → Q g v) → wp_S_tryWord WF (nI lv) (nI k) (nI r) u' Q := by
      intro r y4 y6 Q hrk hQ
      obtain ⟨w', hw', hfit, hun⟩ := hr r (by rw [hrk]; exact List.mem_cons_self)
      rw [hrk, List.map_cons] at hmp
      obtain ⟨e1, e2⟩ := List.cons.inj hmp
      rw [hw'] at e1
      replace e1 : w' = w := e1
      subst e1
      have hcl : w' ∈ cL A asg k := cL_mem.mpr ⟨(ord_get hw').2, hfit, hun⟩
      refine sp_S_tryWord (R := rec w' (mkG (s.st + 1) s.mn s.fd s.ran)) hC (rowC_sam h24 hR hS) hlv hm hst hk hn hw' hfit hun (fun hlt => hWF w' s hcl hg hlt) (fun hlt v hv hsm => ?_) (fun hge v hv hsm => ?_)
      · obtain ⟨i1, i2⟩ := hin w' s hcl hg hlt
        have et : tryL most rec (w' :: t) s = if (rec w' (mkG (s.st + 1) s.mn s.fd s.ran)).1 = true then tryL most rec t (rec w' (mkG (s.st + 1) s.mn s.fd s.ran)).2 else (false, (rec w' (mkG (s.st + 1) s.mn s.fd s.ran)).2) := by
          rw [tryL, if_neg (by omega)]
        by_cases hgo : (rec w' (mkG (s.st + 1) s.mn s.fd s.ran)).1 = true
        · rw [if_pos hgo] at et ⊢
          rw [et] at h
          exact hQ _ _ (ih y4 y6 _ v e2 (fun r' hr' => hr r' (by rw [hrk]; exact List.mem_cons_of_mem _ hr')) hv (samC_trans hS hsm) i1 i2 h)
        · rw [if_neg hgo] at et ⊢
          exact hQ _ _ (stop v (by rw [et]; exact hv) (samC_trans hS hsm) (by rw [et]) y4 y6)
      · have et : tryL most rec (w' :: t) s = (false, mkG s.st s.mn s.fd true) := by rw [tryL, if_pos hge]
        exact hQ _ _ (stop v (by rw [et]; exact hv) (samC_trans hS hsm) (by rw [et]) y4 y6)
    unfold wp_S_fillFrom_86 wp_S_fillFrom_153
    rw [List.length_cons, pk_m1]
    refine ⟨fun z => absurd z (nI_nle (by omega) (by omega)), fun _ => ⟨fun z => absurd z (by decide), fun _ => ⟨fun z => ?_, fun z => ?_⟩⟩⟩
    · have e4 : x4 = 0 := (lg_cmp0 x4).mp z
      subst e4
      have e6 : x6 ≠ 0 := fun z2 => by
        rw [z2, rks_00] at hmp
        cases hmp
      obtain ⟨q, q1, q2, q3, q4⟩ := rks_hi e6
      refine sp_S_lowestBit ?_
      rw [q3, show (64 : Int32) = nI 64 from rfl, nI_add]
      refine main (64 + q) 0 (x6 &&& (x6 - 1)) _ q4 (fun g v hgv => ?_)
      rintro _ rfl
      exact hgv
    · have e4 : x4 ≠ 0 := fun z2 => z ((lg_cmp0 x4).mpr z2)
      obtain ⟨q, q1, q2, q3, q4⟩ := rks_lo (hi := x6) e4
      refine sp_S_lowestBit ?_
      rw [q3]
      refine main q (x4 &&& (x4 - 1)) x6 _ q4 (fun g v hgv => ?_)
      rintro _ rfl
      exact hgv
theorem sp_S_fillFrom {A : AS} {all : Bool} {most : Nat} (hm : most ≤ 20000) : ∀ {f d : Nat} {asg : Nat → Option Nat} {s : Sg} {lv : Nat} {u : zz_St} {post : Int32 → zz_St → Prop}, lv + f = A.S.length → f < d → CS A all most asg s u → rowC A asg lv u → cons A asg → fre asg A.S.length = f → gdS A s → s.st ≤ most →
    (∀ u', CS A all most asg (srch A all most f asg s).2 u' → samC lv u u' → post (nI (if (srch A all most f asg s).1 = true then 1 else 0)) u') → wp_S_fillFrom d (nI lv) u post := by
  intro f
  induction f with
  | zero =>
    intro d asg s lv u post hlv hd hC hR hc hf hg hs h
    have hns := hC.1.1.2.2.1
    have h24 := S_len hC.1.1.1
    obtain ⟨d, rfl⟩ : ∃ d', d = d' + 1 := ⟨d - 1, by omega⟩
    show wp_S_fillB (wp_S_fillFrom d) _ _ _
    unfold wp_S_fillB
    rw [hns]
    refine pk_lt lv A.S.length (fun z => absurd z (by omega)) (fun _ => ?_)
    refine sp_S_takeFilling hC hc (fre_0 hf) hg (fun u' h1 h2 h3 => ⟨by cases all; exact Or.inl rfl; exact Or.inr rfl, h u' h1 (fun i _ => by rw [h2, h3]; exact ⟨rfl, rfl⟩)⟩)
  | succ f ih =>
    intro d asg s lv u post hlv hd hC hR hc hf hg hs h
    have hB := hC.1
    have hns := hB.1.2.2.1
    have h24 := S_len hB.1.1
    have n80 : A.n ≤ 80 := hB.2.1.1.1
    have hW1 : 1 ≤ A.W := hB.1.1.1
    obtain ⟨k, hpk⟩ := pkS_fre (A := A) (asg := asg) n80 (show 0 < fre asg A.S.length by omega)
    obtain ⟨k1, k2, -⟩ := pkS_some hpk
    obtain ⟨e, he⟩ := S_get k1
    have es : srch A all most (f + 1) asg s = tryL most (fun w s => srch A all most f (setA asg k w) s) (cL A asg k) s := by
      rw [srch, hpk]
    rw [es] at h
    obtain ⟨d, rfl⟩ : ∃ d', d = d' + 1 := ⟨d - 1, by omega⟩
    show wp_S_fillB (wp_S_fillFrom d) _ _ _
    unfold wp_S_fillB
    rw [hns]
    refine pk_lt lv A.S.length (fun _ => ?_) (fun z => absurd z (by omega))
    refine sp_S_slotWithFewest hC hR hc (by omega) ?_
    rw [hpk, oI_some]
    refine ⟨fun z => absurd z (nI_nm1 (by omega)), fun _ => ?_⟩
    rw [show (24 : Int32) = nI 24 from rfl, pk_mul, nI_add]
    rintro _ rfl
    rw [nI_clamp (n := lv * 24 + k) (by omega)]
    refine ⟨vin (by omega), ?_⟩
    rintro _ rfl
    refine ⟨vin (by omega), ?_⟩
    rintro _ rfl
    have hb := hasB_andn (hR k k1 k2) hC.2.2.2.2.2.2.2.2.2
    refine sp_JL_bitCount (sp_JL_bitCount ?_)
    rw [nI_add, rks_cnt (by rw [ordW_len]; omega) hb]
    rintro _ rfl
    have hfs : ∀ w, fre (setA asg k w) A.S.length = f := fun w => by
      have := fre_set (w := w) k1 k2
      omega
    have hcs : ∀ w, w ∈ cL A asg k → cons A (setA asg k w) := fun w hw => by
      obtain ⟨a1, a2, -⟩ := cL_mem.mp hw
      exact cons_set hW1 hc a1 a2
    have hmp := rks_filter (by rw [ordW_len]; omega) hb
    refine ⟨(cL A asg k).length + 1, ?_⟩
    refine sp_S_loop (A := A) (all := all) (most := most) (e := e) (asg := asg) (u := u) (rec := fun w s => srch A all most f (setA asg k w) s) hR h24 n80 (by omega) hm he k2 (fun w s hw hg' hst => ?_) (fun w s hw hg' hst u1 a1 a2 Q a3 => ?_) (cL A asg k) _ _ s u hmp (fun r hr => ?_) hC samC_refl hg hs h
    · obtain ⟨q1, q2, -⟩ := srch_inv (A := A) (all := all) (most := most) hW1 (f := f) (asg := setA asg k w) (s := mkG (s.st + 1) s.mn s.fd s.ran) (hfs w) (hcs w hw) hg' hst
      exact ⟨q1, q2⟩
    · exact ih (by omega) (by omega) a1 a2 (hcs w hw) (hfs w) hg' hst a3
    · obtain ⟨r1, r2⟩ := rks_get hr
      exact (hb r r1).mp r2
