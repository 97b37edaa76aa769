abbrev rm_W_cell : Room := { frames := 0, cells := 0, slots := 0, locals := 0 }
def zz_cv (L : Nat) (xs : Nat → Int32) (j : Nat) : Int32 := if j < L then xs j else 0
theorem hd_W_cell : y_W_cell.cls ≠ "java/lang/invoke/MethodHandle" ∧ y_W_cell.cls ≠ "java/lang/invoke/VarHandle" ∧ (parseMethodDescriptor y_W_cell.desc).map (fun d => d.parameters.length) = some 2 := by decide +kernel
def zz_Pcell (b L : Nat) (xs : Nat → Int32) (j : Nat) : Array Value → State → Prop := va_Pc [.ref b, .int (nI j)] (fun U => va_X b L xs U U.heap ∧ b < U.heap.size)
set_option maxRecDepth 100000 in
set_option maxHeartbeats 400000 in
theorem ct_W_cell (l : Launch) (b L : Nat) (xs : Nat → Int32) (j : Nat) (hj : j < 2) (hL : L ≤ 2050) : Met l y_W_cell (.code y_W_cell b_W_cell 2 (some .int) :: zz_tbl) rm_W_cell (zz_Pcell b L xs j) (va_Qi (fun (r : Int32) (_ : Unit) => r = zz_cv L xs j) (fun _ _ => True) (fun _ => False)) 0 0 (fun _ => False) := by
  refine Met.ofW (cc := b_W_cell) (maxL := 2) (ret := some .int) (by decide) rfl ?_
  intro p e s m args below meth c s₁ B hml hv
  obtain ⟨rfl, hX, hbl⟩ := hv
  have hx := B.exec
  have hb := B.bytes
  have hr := B.returns
  have hlocks := B.notSynchronized
  have hS : va_S (fun _ => False) s.heap s.heap [] := va_S.rf
  have hbA : ¬ (fun _ : Nat => False) b := fun h => h
  have hl := lv_entry ([.ref b, .int (nI j)]) (n := 2) (Nat.le_of_ble_eq_true rfl)
  rw [lg_entry_eq]
  generalize (lg_sl ([.ref b, .int (nI j)]) ++ List.replicate (2 - (lg_sl ([.ref b, .int (nI j)])).length) Slot.unset).toArray = ls at hl ⊢
  have hl : lv_has ls 2 [(0, .ref b), (1, .int (nI j))] := hl
  refine lv_iload_n hx hb d_W_cell_0 rfl (lv_at hl 1 rfl) ?_
  refine lv_aload_n hx hb d_W_cell_1 rfl (lv_at hl 0 rfl) ?_
  refine va_slen hx hb hX hbl hbA hS d_W_cell_2 ?_
  refine lv_icmp_ge (tgt := 12) hx hb d_W_cell_3 (by decide) (fun c1 => ?_) (fun c1 => ?_)
  · have hge : L ≤ j := (nI_leI (by omega) (by omega)).mp c1
    refine lv_iconst (v := 0) hx hb d_W_cell_12 (by decide) ?_
    exact W.iret (v := 0) hx hb hr (fun t ht hW => ⟨⟨0, (), rfl, by rw [zz_cv, if_neg (by omega)], trivial⟩, hS.F ht⟩) (fun _ h => by cases h) d_W_cell_13
  · have hlt : j < L := by
      rcases Nat.lt_or_ge j L with q | q
      · exact q
      · exact absurd ((nI_leI (by omega) (by omega)).mpr q) c1
    refine lv_aload_n hx hb d_W_cell_6 rfl (lv_at hl 0 rfl) ?_
    refine lv_iload_n hx hb d_W_cell_7 rfl (lv_at hl 1 rfl) ?_
    refine va_sld hx hb hX hbl hbA hS (vp_in_nI hlt (by omega)) d_W_cell_8 ?_
    refine lv_goto (tgt := 13) hx hb d_W_cell_9 (by decide) ?_
    exact W.iret hx hb hr (fun t ht hW => ⟨⟨_, (), rfl, by rw [zz_cv, if_pos hlt, nI_clamp (by omega)], trivial⟩, hS.F ht⟩) (fun _ h => by cases h) d_W_cell_13
theorem zz_cellrow {p : Program} {l : Launch} {e : Env} {s : State} {m : MethodId} {args : Array Value} {below : List Frame} {meth : Method} {c : Code} {H : Heap} {locs : List Loc} {cells slots : Nat} {Q : State → Prop} {cc : ByteArray} {pc index : Nat} {ret : Option FieldType} {D : va_G} {cl : List vw_C} {tys : List (ClassId × FieldType)} {A : Nat → Prop} {ws : va_W} {ls : Array Slot} {rest : List Value} {b L : Nat} {xs : Nat → Int32} (cx : zz_Cx p s m args meth c "GridFillsLaw" cc 4 ret D cl tys A) (hw : zz_Wd D cl A s.heap H locs ws) (hX : va_X b L xs s s.heap) (hbl : b < s.heap.size) (hbA : ¬ A b) (hL : L ≤ 2050) (j : Nat) (hj : j < 2) (hg : GoodIn zz_tbl (va_wsS "GridFillsLaw" index y_W_cell (.code y_W_cell b_W_cell 2 (some .int) :: zz_tbl))) (hcs : cells ≤ room_1.cells ∧ slots ≤ room_1.slots) (hls : ls.size = 4) (hro : (rest.map fun v => v.category).sum ≤ 8) (hdg : decode cc pc = .ok (.invokestatic index, 3))
    (kk : ∀ (H1 : Heap) (locs1 : List Loc), zz_Wd D cl A s.heap H1 locs1 ws → W p l e room_1 s m args below meth c H1 locs1 cells slots Q (F0 m (pc + 3) ls (.int (zz_cv L xs j) :: rest))) : W p l e room_1 s m args below meth c H locs cells slots Q (F0 m pc ls (.int (nI j) :: .ref b :: rest)) := by
  obtain ⟨hx, hb, hr, hml, hown, hts, hlocks, hK, hA⟩ := cx
  obtain ⟨hP, hD, hS⟩ := hw
  have hX2 : va_X b L xs s H := hX.kept (hS.2.1 b hbl hbA)
  refine va_calli (va_runS (As := [.ref b, .int (nI j)]) (rest := rest) ⟨hx, hb, hml, hown, hts⟩ (ct_W_cell l b L xs j hj hL) (va_cwS 2 hts hg rfl rfl rfl hd_W_cell ⟨Nat.le_of_ble_eq_true rfl, Nat.le_of_ble_eq_true rfl⟩) ⟨fun a U g mk q => ⟨q.1, va_X.moved (u := U) (U := U.calling g mk a) (Vm.Alike.refl U.vm) q.2.1, q.2.2⟩, fun U hU hW => ⟨rfl, by rw [hU]; exact va_X.moved hW.alike hX2, by rw [hU]; exact Nat.lt_of_lt_of_le hbl hS.1⟩⟩ rfl rfl hls rfl (lv_room hro) hdg hcs) hS (fun q _ h => False.elim h) (fun q h => False.elim h) (fun r u1 t H1 locs1 ht hvm hp hB hz1 hk1 hS1 => ?_)
  rw [hp]
  exact kk H1 locs1 ⟨hP.kept (fun k q hq => hk1 q.1 (hP k q hq).lt (fun h => h)), hD, hS1⟩
theorem zz_arr {args : Array Value} {s : State} {ty : FieldType} (h : (Cond.arrayClass ty).before args s = true) (hra : ∀ (U : State) (c : ClassId), va_RA U c ty ↔ U.vm.findClass ("[" ++ ty.toString) = some c) : ∃ cA : ClassId, ArrOfT s cA ty ∧ va_RA s cA ty := by
  obtain ⟨cA, kA, comp, h1, h2, h3⟩ := Cond.arrayClass_spec h
  exact ⟨cA, fun n z => ⟨fun k h => (by cases h), kA, h2, comp, h3⟩, (hra _ _).mpr h1⟩
def zz_pure : Prop := ∀ (L : Nat) (xs : Nat → Int32), L ≤ 2050 → wp_X_init (zz_cv L xs 0) (zz_cv L xs 1) (fun uC => wp_M_init (zz_cv L xs 0) (zz_cv L xs 1) (fun uM => ∃ n : Nat, wp_W_law_38_f L xs n 2 uC uM))
set_option maxRecDepth 100000 in
set_option maxHeartbeats 400000 in
theorem whole_start_open (hpure : zz_pure) {p : Program} {e : Env} {s : State} {m : MethodId} {below : List Frame} {meth : Method} {c : Code} (l : Launch) {b L : Nat} {xs : Nat → Int32} (hL : L ≤ 2050) (C0 : lw_At p s m meth c b L xs) : W p l e room_1 s m #[Value.ref b] below meth c s.heap [] 0 0 (lw_Z below #[Value.ref b] s) (entryFrame m ([Value.ref b] : List Value).toArray 4) := by
  obtain ⟨hx, hb, hr, hml, hown, hts0, hX, hbl, hlocks, hgv⟩ := id C0
  have hts : ∀ w ∈ zz_tbl, w.before #[Value.ref b] s = true := fun w hw => hts0 w (List.mem_filter.mp hw).1
  have hnest : va_Nw (.methodLinkNest "GridFills" 24 y_L_init "GridFills") s := va_Nw.of rfl (hts0 (.methodLinkNest "GridFills" 24 y_L_init "GridFills") (List.mem_append_right _ (List.mem_append_left _ (List.mem_of_getElem? (i := 124) rfl))))
  have hA : ∀ q : Nat, s.heap.size ≤ q → (fun q : Nat => s.heap.size ≤ q) q := fun _ h => h
  have hbA : ¬ (fun q : Nat => s.heap.size ≤ q) b := Nat.not_le.mpr hbl
  obtain ⟨c0, iS0, hKn0⟩ := u_known (C := "GridFills") (T := ft_X) (N := 4) (n := 4) hts in_X (hts _ kw_568)
  obtain ⟨c1, iS1, hKn1⟩ := u_known (C := "GridFills$Grid") (T := ft_G) (N := 13) (n := 13) hts in_G (hts _ kw_543)
  obtain ⟨c2, iS2, hKn2⟩ := u_known (C := "GridFills$WordList") (T := ft_L) (N := 12) (n := 12) hts in_L (hts _ kw_551)
  obtain ⟨c3, iS3, hKn3⟩ := u_known (C := "GridFills$Filling") (T := ft_F) (N := 4) (n := 4) hts in_F (hts _ kw_555)
  obtain ⟨c4, iS4, hKn4⟩ := u_known (C := "GridFills$Search") (T := ft_S) (N := 14) (n := 14) hts in_S (hts _ kw_560)
  obtain ⟨c5, iS5, hKn5⟩ := u_known (C := "GridFillsModel") (T := ft_M) (N := 28) (n := 28) hts in_M (hts _ kw_569)
  obtain ⟨dC, dI, hKc⟩ : ∃ (dC : Nat → ClassId) (dI : Nat → Nat → Nat), ∀ (k : Nat) (q : vw_C), zz_cl[k]? = some q → u_Kn s q.1 q.2.1 q.2.2 (dC k) (dI k) := by
    refine ⟨fun k => if k = 0 then c0 else if k = 1 then c1 else if k = 2 then c2 else if k = 3 then c3 else if k = 4 then c4 else c5, fun k => if k = 0 then iS0 else if k = 1 then iS1 else if k = 2 then iS2 else if k = 3 then iS3 else if k = 4 then iS4 else iS5, ?_⟩
    intro k q hq
    match k, hq with
    | 0, hq => cases hq; exact hKn0
    | 1, hq => cases hq; exact hKn1
    | 2, hq => cases hq; exact hKn2
    | 3, hq => cases hq; exact hKn3
    | 4, hq => cases hq; exact hKn4
    | 5, hq => cases hq; exact hKn5
    | k + 6, hq => simp [zz_cl] at hq
  obtain ⟨cI, hI⟩ := zz_arr (hts _ kw_534) (fun _ _ => Iff.rfl)
  obtain ⟨cZ, hZ⟩ := zz_arr (hts _ kw_539) (fun _ _ => Iff.rfl)
  obtain ⟨cL, hJ⟩ := zz_arr (hts _ kw_535) (fun _ _ => Iff.rfl)
  obtain ⟨D, hDe⟩ : ∃ D : va_G, D = (dC, dI) := ⟨_, rfl⟩
  have hK : va_K D zz_cl (zz_ty cI cZ cL) s := by
    subst hDe
    refine ⟨hKc, ?_⟩
    intro k q hq
    match k, hq with
    | 0, hq => cases hq; exact hI
    | 1, hq => cases hq; exact hZ
    | 2, hq => cases hq; exact hJ
    | k + 3, hq => simp [zz_ty] at hq
  have cx : zz_Cx p s m #[Value.ref b] meth c "GridFillsLaw" b_W_law 4 (some .boolean) D zz_cl (zz_ty cI cZ cL) (fun q : Nat => s.heap.size ≤ q) := ⟨hx, hb, hr, hml, hown, hts, hlocks, hK, hA⟩
  have hw : zz_Wd D zz_cl (fun q : Nat => s.heap.size ≤ q) s.heap s.heap [] [] := ⟨fun k q h => by simp at h, ⟨fun i j p q h => by simp at h, fun k q h => by simp at h⟩, va_S.rf⟩
  have hl := lv_entry ([.ref b]) (n := 4) (Nat.le_of_ble_eq_true rfl)
  rw [lg_entry_eq]
  generalize (lg_sl ([.ref b]) ++ List.replicate (4 - (lg_sl ([.ref b])).length) Slot.unset).toArray = ls at hl ⊢
  have hl : lv_has ls 4 [(0, .ref b)] := hl
  have h := hpure L xs hL
  refine zz_newo (ci := 0) (fs := [.null, .null, .null, .null]) cx hw in_X ty_X tk_X kw_570 kw_568 kw_201 rfl (fun j hj => by rcases (show j = 0 ∨ j = 1 ∨ j = 2 ∨ j = 3 by omega) with rfl | rfl | rfl | rfl <;> rfl) (Nat.le_of_ble_eq_true rfl) (Nat.le_of_ble_eq_true rfl) d_W_law_0 (k2 := 1) (n2 := 4) rfl rfl (fun qX H hw => ?_)
  replace hw : zz_Wd D zz_cl (fun q : Nat => s.heap.size ≤ q) s.heap H _ ([] ++ [(qX, .inr (0, [.null, .null, .null, .null]))]) := hw
  refine lv_dup hx hb d_W_law_3 rfl ?_
  refine lv_aload_n hx hb d_W_law_4 rfl (lv_at hl 0 rfl) ?_
  refine lv_iconst (v := nI 0) hx hb d_W_law_5 (by decide) ?_
  refine zz_cellrow cx hw hX hbl hbA hL 0 (by decide) (zz_gS kw_564 kw_565 kw_566 kw_567) ⟨Nat.le_of_ble_eq_true rfl, Nat.le_of_ble_eq_true rfl⟩ hl.1 (Nat.le_of_ble_eq_true rfl) d_W_law_6 (fun H locs hw => ?_)
  refine lv_aload_n hx hb d_W_law_9 rfl (lv_at hl 0 rfl) ?_
  refine lv_iconst (v := nI 1) hx hb d_W_law_10 (by decide) ?_
  refine zz_cellrow cx hw hX hbl hbA hL 1 (by decide) (zz_gS kw_564 kw_565 kw_566 kw_567) ⟨Nat.le_of_ble_eq_true rfl, Nat.le_of_ble_eq_true rfl⟩ hl.1 (Nat.le_of_ble_eq_true rfl) d_W_law_11 (fun H locs hw => ?_)
  refine zz_callN (w1 := []) (w0 := [(qX, .inr (0, [.null, .null, .null, .null]))]) (As := [.int (zz_cv L xs 0), .int (zz_cv L xs 1)]) (rest := [.ref qX]) cx hw (ct_X_init l D cI cZ cL qX h) (fun _ _ e hz => va_Nw.same rfl e hz) (fun U hW => va_Nw.warmM hW hnest) (fun w hw => (List.mem_cons.mp hw).elim (fun e => zz_gw (e ▸ kw_571)) (zz_good w)) kw_572 kw_201 kw_573 rfl hd_X_init ⟨rfl, rfl⟩ ⟨Nat.le_of_ble_eq_true rfl, Nat.le_of_ble_eq_true rfl⟩ ⟨Nat.le_of_ble_eq_true rfl, Nat.le_of_ble_eq_true rfl⟩ rfl hl.1 rfl (Nat.le_of_ble_eq_true rfl) d_W_law_14 (k2 := 28) (n2 := 2775) rfl rfl (fun z1 H locs hz hw9 => ?_)
  obtain ⟨aC, uC⟩ := z1
  obtain ⟨hz, h⟩ := hz
  dsimp only at hz h hw9
  subst hz
  have hw : zz_Wd D zz_cl (fun q : Nat => s.heap.size ≤ q) s.heap _ _ (gw_C cI cZ cL aC uC) := hw9
  clear hw9
  refine lv_astore_n (lv' := [(1, .ref (aC 0)), (0, .ref b)]) hx hb d_W_law_17 rfl hl (by decide) rfl (fun ls hl => ?_)
  refine zz_newo (ci := 5) (fs := [.int 0, .int 0, .int 0, .null, .null, .int 0, .null, .int 0, .null, .null, .null, .int 0, .null, .null, .null, .null, .int 0, .null, .null, .int 0, .int 0, .int 0, .null, .null, .null, .null, .null, .null]) cx hw in_M ty_M tk_M kw_574 kw_569 kw_301 rfl (fun j hj => by rcases (show j = 0 ∨ j = 1 ∨ j = 2 ∨ j = 3 ∨ j = 4 ∨ j = 5 ∨ j = 6 ∨ j = 7 ∨ j = 8 ∨ j = 9 ∨ j = 10 ∨ j = 11 ∨ j = 12 ∨ j = 13 ∨ j = 14 ∨ j = 15 ∨ j = 16 ∨ j = 17 ∨ j = 18 ∨ j = 19 ∨ j = 20 ∨ j = 21 ∨ j = 22 ∨ j = 23 ∨ j = 24 ∨ j = 25 ∨ j = 26 ∨ j = 27 by omega) with rfl | rfl | rfl | rfl | rfl | rfl | rfl | rfl | rfl | rfl | rfl | rfl | rfl | rfl | rfl | rfl | rfl | rfl | rfl | rfl | rfl | rfl | rfl | rfl | rfl | rfl | rfl | rfl <;> rfl) (Nat.le_of_ble_eq_true rfl) (Nat.le_of_ble_eq_true rfl) d_W_law_18 (k2 := 29) (n2 := 2803) rfl rfl (fun qM H hw => ?_)
  refine lv_dup hx hb d_W_law_21 rfl ?_
  refine lv_aload_n hx hb d_W_law_22 rfl (lv_at hl 1 rfl) ?_
  refine lv_iconst (v := nI 0) hx hb d_W_law_23 (by decide) ?_
  refine zz_cellrow cx hw hX hbl hbA hL 0 (by decide) (zz_gS kw_564 kw_565 kw_566 kw_567) ⟨Nat.le_of_ble_eq_true rfl, Nat.le_of_ble_eq_true rfl⟩ hl.1 (Nat.le_of_ble_eq_true rfl) d_W_law_24 (fun H locs hw => ?_)
  refine lv_aload_n hx hb d_W_law_27 rfl (lv_at hl 1 rfl) ?_
  refine lv_iconst (v := nI 1) hx hb d_W_law_28 (by decide) ?_
  refine zz_cellrow cx hw hX hbl hbA hL 1 (by decide) (zz_gS kw_564 kw_565 kw_566 kw_567) ⟨Nat.le_of_ble_eq_true rfl, Nat.le_of_ble_eq_true rfl⟩ hl.1 (Nat.le_of_ble_eq_true rfl) d_W_law_29 (fun H locs hw => ?_)
  refine zz_callN (w1 := (gw_C cI cZ cL aC uC)) (w0 := [(qM, .inr (5, [.int 0, .int 0, .int 0, .null, .null, .int 0, .null, .int 0, .null, .null, .null, .int 0, .null, .null, .null, .null, .int 0, .null, .null, .int 0, .int 0, .int 0, .null, .null, .null, .null, .null, .null]))]) (As := [.int (zz_cv L xs 0), .int (zz_cv L xs 1)]) (rest := [.ref qM]) cx hw (ct_M_init l D cI cZ cL qM h) (fun _ _ _ hz => hz) (fun _ _ => trivial) (fun w hw => (List.mem_cons.mp hw).elim (fun e => zz_gw (e ▸ kw_575)) (zz_good w)) kw_576 kw_301 kw_577 rfl hd_M_init ⟨rfl, rfl⟩ ⟨Nat.le_of_ble_eq_true rfl, Nat.le_of_ble_eq_true rfl⟩ ⟨Nat.le_of_ble_eq_true rfl, Nat.le_of_ble_eq_true rfl⟩ rfl hl.1 rfl (Nat.le_of_ble_eq_true rfl) d_W_law_32 (k2 := 47) (n2 := 6880) rfl rfl (fun z2 H locs hz hw9 => ?_)
  obtain ⟨aM, uM⟩ := z2
  obtain ⟨hz, h⟩ := hz
  dsimp only at hz h hw9
  subst hz
  have hw : zz_Wd D zz_cl (fun q : Nat => s.heap.size ≤ q) s.heap _ _ (gw_C cI cZ cL aC uC ++ gw_M cI cZ cL aM uM) := hw9
  clear hw9
  refine lv_astore_n (lv' := [(2, .ref (aM 0)), (1, .ref (aC 0)), (0, .ref b)]) hx hb d_W_law_35 rfl hl (by decide) rfl (fun ls hl => ?_)
  refine lv_iconst (v := 2) hx hb d_W_law_36 (by decide) ?_
  refine lv_istore_n (lv' := [(3, .int 2), (2, .ref (aM 0)), (1, .ref (aC 0)), (0, .ref b)]) hx hb d_W_law_37 rfl hl (by decide) rfl (fun ls hl => ?_)
  refine W.widen (k := 600000) (n := 7302250) (Nat.le_of_ble_eq_true rfl) (Nat.le_of_ble_eq_true rfl) ?_
  obtain ⟨n, h⟩ := h
  exact wk_W_law_38_f cx hX hbl n 2 uC uM _ _ _ hw (lv_sub hl [3, 2, 1, 0] rfl) h
