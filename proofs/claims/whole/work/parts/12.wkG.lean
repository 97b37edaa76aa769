set_option maxRecDepth 100000 in
set_option maxHeartbeats 4000000 in
theorem ct_G_cellAt (l : Launch) (D : va_G) (cI cZ cL : ClassId) (a : Nat → Nat) {a0 : Int32} {a1 : Int32} {u : zz_St} {post : Int32 → zz_St → Prop} (h : wp_G_cellAt  a0 a1 u post) : zz_MI l y_G_cellAt (.code y_G_cellAt b_G_cellAt 3 (some .int) :: zz_tbl) (rm_G_cellAt) D zz_cl (zz_ty cI cZ cL) (gw_C cI cZ cL a) [.ref (a 1), .int a0, .int a1] u post := by
  unfold wp_G_cellAt at h
  refine zz_ofI (by decide) (Nat.le_of_ble_eq_true rfl) ?_
  intro p e s m below meth c A cx hw ls hl
  obtain ⟨hx, hb, hr, hml, hown, hts, hlk, hK, hA⟩ := id cx
  refine lv_iload_n hx hb d_G_cellAt_0 rfl (lv_at hl 1 rfl) ?_
  refine lv_if_lt (tgt := 35) hx hb d_G_cellAt_1 (by decide) (fun c1 => ?_) (fun c1 => ?_)
  · replace h := h.1 c1
    refine lv_iconst (v := (-1)) hx hb d_G_cellAt_35 (by decide) ?_
    exact zz_reti cx hw d_G_cellAt_36 h
  · replace h := h.2 c1
    refine lv_iload_n hx hb d_G_cellAt_4 rfl (lv_at hl 1 rfl) ?_
    refine lv_aload_n hx hb d_G_cellAt_5 rfl (lv_at hl 0 rfl) ?_
    refine zz_get (v2 := .int (sg_i u 0)) cx hw in_G 1 rfl rfl 0 (by decide) kw_3 rfl rfl d_G_cellAt_6 ?_
    refine lv_icmp_ge (tgt := 35) hx hb d_G_cellAt_9 (by decide) (fun c2 => ?_) (fun c2 => ?_)
    · replace h := h.1 c2
      refine lv_iconst (v := (-1)) hx hb d_G_cellAt_35 (by decide) ?_
      exact zz_reti cx hw d_G_cellAt_36 h
    · replace h := h.2 c2
      refine lv_iload_n hx hb d_G_cellAt_12 rfl (lv_at hl 2 rfl) ?_
      refine lv_if_lt (tgt := 35) hx hb d_G_cellAt_13 (by decide) (fun c3 => ?_) (fun c3 => ?_)
      · replace h := h.1 c3
        refine lv_iconst (v := (-1)) hx hb d_G_cellAt_35 (by decide) ?_
        exact zz_reti cx hw d_G_cellAt_36 h
      · replace h := h.2 c3
        refine lv_iload_n hx hb d_G_cellAt_16 rfl (lv_at hl 2 rfl) ?_
        refine lv_aload_n hx hb d_G_cellAt_17 rfl (lv_at hl 0 rfl) ?_
        refine zz_get (v2 := .int (sg_i u 1)) cx hw in_G 1 rfl rfl 1 (by decide) kw_4 rfl rfl d_G_cellAt_18 ?_
        refine lv_icmp_ge (tgt := 35) hx hb d_G_cellAt_21 (by decide) (fun c4 => ?_) (fun c4 => ?_)
        · replace h := h.1 c4
          refine lv_iconst (v := (-1)) hx hb d_G_cellAt_35 (by decide) ?_
          exact zz_reti cx hw d_G_cellAt_36 h
        · replace h := h.2 c4
          refine lv_iload_n hx hb d_G_cellAt_24 rfl (lv_at hl 1 rfl) ?_
          refine lv_aload_n hx hb d_G_cellAt_25 rfl (lv_at hl 0 rfl) ?_
          refine zz_get (v2 := .int (sg_i u 0)) cx hw in_G 1 rfl rfl 0 (by decide) kw_3 rfl rfl d_G_cellAt_26 ?_
          refine lv_iload_n hx hb d_G_cellAt_29 rfl (lv_at hl 2 rfl) ?_
          refine lv_imul hx hb d_G_cellAt_30 ?_
          refine lv_iadd hx hb d_G_cellAt_31 ?_
          refine lv_goto (tgt := 36) hx hb d_G_cellAt_32 (by decide) ?_
          exact zz_reti cx hw d_G_cellAt_36 h
set_option maxRecDepth 100000 in
set_option maxHeartbeats 4000000 in
theorem ct_G_hasSlot (l : Launch) (D : va_G) (cI cZ cL : ClassId) (a : Nat → Nat) {a0 : Int32} {u : zz_St} {post : Int32 → zz_St → Prop} (h : wp_G_hasSlot  a0 u post) : zz_MI l y_G_hasSlot (.code y_G_hasSlot b_G_hasSlot 2 (some .boolean) :: zz_tbl) (rm_G_hasSlot) D zz_cl (zz_ty cI cZ cL) (gw_C cI cZ cL a) [.ref (a 1), .int a0] u post := by
  unfold wp_G_hasSlot at h
  refine zz_ofI (by decide) (Nat.le_of_ble_eq_true rfl) ?_
  intro p e s m below meth c A cx hw ls hl
  obtain ⟨hx, hb, hr, hml, hown, hts, hlk, hK, hA⟩ := id cx
  refine lv_iload_n hx hb d_G_hasSlot_0 rfl (lv_at hl 1 rfl) ?_
  refine lv_if_lt (tgt := 16) hx hb d_G_hasSlot_1 (by decide) (fun c1 => ?_) (fun c1 => ?_)
  · replace h := h.1 c1
    refine lv_iconst (v := 0) hx hb d_G_hasSlot_16 (by decide) ?_
    exact zz_retz cx hw d_G_hasSlot_17 (by decide) h
  · replace h := h.2 c1
    refine lv_iload_n hx hb d_G_hasSlot_4 rfl (lv_at hl 1 rfl) ?_
    refine lv_aload_n hx hb d_G_hasSlot_5 rfl (lv_at hl 0 rfl) ?_
    refine zz_get (v2 := .int (sg_i u 3)) cx hw in_G 1 rfl rfl 5 (by decide) kw_5 rfl rfl d_G_hasSlot_6 ?_
    refine lv_icmp_ge (tgt := 16) hx hb d_G_hasSlot_9 (by decide) (fun c2 => ?_) (fun c2 => ?_)
    · replace h := h.1 c2
      refine lv_iconst (v := 0) hx hb d_G_hasSlot_16 (by decide) ?_
      exact zz_retz cx hw d_G_hasSlot_17 (by decide) h
    · replace h := h.2 c2
      refine lv_iconst (v := 1) hx hb d_G_hasSlot_12 (by decide) ?_
      refine lv_goto (tgt := 17) hx hb d_G_hasSlot_13 (by decide) ?_
      exact zz_retz cx hw d_G_hasSlot_17 (by decide) h
set_option maxRecDepth 100000 in
set_option maxHeartbeats 4000000 in
theorem ct_G_cellOf (l : Launch) (D : va_G) (cI cZ cL : ClassId) (a : Nat → Nat) {a0 : Int32} {a1 : Int32} {u : zz_St} {post : Int32 → zz_St → Prop} (h : wp_G_cellOf  a0 a1 u post) : zz_MI l y_G_cellOf (.code y_G_cellOf b_G_cellOf 3 (some .int) :: zz_tbl) (rm_G_cellOf) D zz_cl (zz_ty cI cZ cL) (gw_C cI cZ cL a) [.ref (a 1), .int a0, .int a1] u post := by
  unfold wp_G_cellOf at h
  refine zz_ofI (by decide) (Nat.le_of_ble_eq_true rfl) ?_
  intro p e s m below meth c A cx hw ls hl
  obtain ⟨hx, hb, hr, hml, hown, hts, hlk, hK, hA⟩ := id cx
  refine lv_aload_n hx hb d_G_cellOf_0 rfl (lv_at hl 0 rfl) ?_
  refine zz_get (v2 := .ref (a 7)) cx hw in_G 1 rfl rfl 6 (by decide) kw_6 rfl rfl d_G_cellOf_1 ?_
  refine lv_iload_n hx hb d_G_cellOf_4 rfl (lv_at hl 1 rfl) ?_
  obtain ⟨hi, h⟩ := h
  refine zz_iald (f2 := sg_a u 2) cx hw 7 0 rfl rfl hi rfl d_G_cellOf_5 ?_
  refine lv_iload_n hx hb d_G_cellOf_6 rfl (lv_at hl 2 rfl) ?_
  refine lv_aload_n hx hb d_G_cellOf_7 rfl (lv_at hl 0 rfl) ?_
  refine zz_get (v2 := .ref (a 9)) cx hw in_G 1 rfl rfl 8 (by decide) kw_7 rfl rfl d_G_cellOf_8 ?_
  refine lv_iload_n hx hb d_G_cellOf_11 rfl (lv_at hl 1 rfl) ?_
  obtain ⟨hi, h⟩ := h
  refine zz_iald (f2 := sg_a u 4) cx hw 9 0 rfl rfl hi rfl d_G_cellOf_12 ?_
  refine lv_if_ne (tgt := 20) hx hb d_G_cellOf_13 (by decide) (fun c1 => ?_) (fun c1 => ?_)
  · replace h := h.2 c1
    refine lv_aload_n hx hb d_G_cellOf_20 rfl (lv_at hl 0 rfl) ?_
    refine zz_get (v2 := .int (sg_i u 0)) cx hw in_G 1 rfl rfl 0 (by decide) kw_3 rfl rfl d_G_cellOf_21 ?_
    refine lv_imul hx hb d_G_cellOf_24 ?_
    refine lv_iadd hx hb d_G_cellOf_25 ?_
    exact zz_reti cx hw d_G_cellOf_26 h
  · replace h := h.1 c1
    refine lv_iconst (v := 1) hx hb d_G_cellOf_16 (by decide) ?_
    refine lv_goto (tgt := 24) hx hb d_G_cellOf_17 (by decide) ?_
    refine lv_imul hx hb d_G_cellOf_24 ?_
    refine lv_iadd hx hb d_G_cellOf_25 ?_
    exact zz_reti cx hw d_G_cellOf_26 h
set_option maxRecDepth 100000 in
set_option maxHeartbeats 4000000 in
theorem ct_G_slotAt (l : Launch) (D : va_G) (cI cZ cL : ClassId) (a : Nat → Nat) {a0 : Int32} {a1 : Int32} {u : zz_St} {post : Int32 → zz_St → Prop} (h : wp_G_slotAt  a0 a1 u post) : zz_MI l y_G_slotAt (.code y_G_slotAt b_G_slotAt 3 (some .int) :: zz_tbl) (rm_G_slotAt) D zz_cl (zz_ty cI cZ cL) (gw_C cI cZ cL a) [.ref (a 1), .int a0, .int a1] u post := by
  unfold wp_G_slotAt at h
  refine zz_ofI (by decide) (Nat.le_of_ble_eq_true rfl) ?_
  intro p e s m below meth c A cx hw ls hl
  obtain ⟨hx, hb, hr, hml, hown, hts, hlk, hK, hA⟩ := id cx
  refine lv_aload_n hx hb d_G_slotAt_0 rfl (lv_at hl 0 rfl) ?_
  refine zz_get (v2 := .ref (a 11)) cx hw in_G 1 rfl rfl 10 (by decide) kw_8 rfl rfl d_G_slotAt_1 ?_
  refine lv_iload_n hx hb d_G_slotAt_4 rfl (lv_at hl 2 rfl) ?_
  refine lv_bipush (v := 36) hx hb d_G_slotAt_5 (by decide) ?_
  refine lv_imul hx hb d_G_slotAt_7 ?_
  refine lv_iload_n hx hb d_G_slotAt_8 rfl (lv_at hl 1 rfl) ?_
  refine lv_iadd hx hb d_G_slotAt_9 ?_
  obtain ⟨hi, h⟩ := h
  refine zz_iald (f2 := sg_a u 6) cx hw 11 0 rfl rfl hi rfl d_G_slotAt_10 ?_
  exact zz_reti cx hw d_G_slotAt_11 h
set_option maxRecDepth 100000 in
set_option maxHeartbeats 4000000 in
theorem ct_G_placeAt (l : Launch) (D : va_G) (cI cZ cL : ClassId) (a : Nat → Nat) {a0 : Int32} {a1 : Int32} {u : zz_St} {post : Int32 → zz_St → Prop} (h : wp_G_placeAt  a0 a1 u post) : zz_MI l y_G_placeAt (.code y_G_placeAt b_G_placeAt 3 (some .int) :: zz_tbl) (rm_G_placeAt) D zz_cl (zz_ty cI cZ cL) (gw_C cI cZ cL a) [.ref (a 1), .int a0, .int a1] u post := by
  unfold wp_G_placeAt at h
  refine zz_ofI (by decide) (Nat.le_of_ble_eq_true rfl) ?_
  intro p e s m below meth c A cx hw ls hl
  obtain ⟨hx, hb, hr, hml, hown, hts, hlk, hK, hA⟩ := id cx
  refine lv_aload_n hx hb d_G_placeAt_0 rfl (lv_at hl 0 rfl) ?_
  refine zz_get (v2 := .ref (a 12)) cx hw in_G 1 rfl rfl 11 (by decide) kw_9 rfl rfl d_G_placeAt_1 ?_
  refine lv_iload_n hx hb d_G_placeAt_4 rfl (lv_at hl 2 rfl) ?_
  refine lv_bipush (v := 36) hx hb d_G_placeAt_5 (by decide) ?_
  refine lv_imul hx hb d_G_placeAt_7 ?_
  refine lv_iload_n hx hb d_G_placeAt_8 rfl (lv_at hl 1 rfl) ?_
  refine lv_iadd hx hb d_G_placeAt_9 ?_
  obtain ⟨hi, h⟩ := h
  refine zz_iald (f2 := sg_a u 7) cx hw 12 0 rfl rfl hi rfl d_G_placeAt_10 ?_
  exact zz_reti cx hw d_G_placeAt_11 h
set_option maxRecDepth 100000 in
set_option maxHeartbeats 4000000 in
theorem ct_G_isOpen (l : Launch) (D : va_G) (cI cZ cL : ClassId) (a : Nat → Nat) {a0 : Int32} {a1 : Int32} {u : zz_St} {post : Int32 → zz_St → Prop} (h : wp_G_isOpen  a0 a1 u post) : zz_MI l y_G_isOpen (.code y_G_isOpen b_G_isOpen 4 (some .boolean) :: zz_tbl) (rm_G_isOpen) D zz_cl (zz_ty cI cZ cL) (gw_C cI cZ cL a) [.ref (a 1), .int a0, .int a1] u post := by
  unfold wp_G_isOpen at h
  refine zz_ofI (by decide) (Nat.le_of_ble_eq_true rfl) ?_
  intro p e s m below meth c A cx hw ls hl
  obtain ⟨hx, hb, hr, hml, hown, hts, hlk, hK, hA⟩ := id cx
  refine lv_aload_n hx hb d_G_isOpen_0 rfl (lv_at hl 0 rfl) ?_
  refine lv_iload_n hx hb d_G_isOpen_1 rfl (lv_at hl 1 rfl) ?_
  refine lv_iload_n hx hb d_G_isOpen_2 rfl (lv_at hl 2 rfl) ?_
  refine zz_callVi (As := [.int a0, .int a1]) (rest := []) cx hw (ct_G_cellAt l D cI cZ cL a h) (zz_gV kw_11 kw_14 kw_15 kw_13 kw_12) hd_G_cellAt ⟨rfl, rfl⟩ ⟨Nat.le_of_ble_eq_true rfl, Nat.le_of_ble_eq_true rfl⟩ 1 rfl rfl rfl rfl hl.1 rfl (Nat.le_of_ble_eq_true rfl) d_G_isOpen_3 (fun r2 s1 H locs h hw => ?_)
  refine lv_istore_n (lv' := [(3, .int r2), (0, .ref (a 1)), (1, .int a0), (2, .int a1)]) hx hb d_G_isOpen_6 rfl hl (by decide) rfl (fun ls hl => ?_)
  refine lv_iload_n hx hb d_G_isOpen_7 rfl (lv_at hl 0 rfl) ?_
  refine lv_iconst (v := (-1)) hx hb d_G_isOpen_8 (by decide) ?_
  refine lv_icmp_eq (tgt := 25) hx hb d_G_isOpen_9 (by decide) (fun c3 => ?_) (fun c3 => ?_)
  · replace h := h.1 c3
    refine lv_iconst (v := 0) hx hb d_G_isOpen_25 (by decide) ?_
    exact zz_retz cx hw d_G_isOpen_26 (by decide) h
  · replace h := h.2 c3
    refine lv_aload_n hx hb d_G_isOpen_12 rfl (lv_at hl 1 rfl) ?_
    refine zz_get (v2 := .ref (a 5)) cx hw in_G 1 rfl rfl 3 (by decide) kw_10 rfl rfl d_G_isOpen_13 ?_
    refine lv_iload_n hx hb d_G_isOpen_16 rfl (lv_at hl 0 rfl) ?_
    obtain ⟨hi, h⟩ := h
    refine zz_zald (f2 := sg_a s1 0) cx hw 5 1 rfl rfl hi rfl d_G_isOpen_17 ?_
    refine lv_if_ne (tgt := 25) hx hb d_G_isOpen_18 (by decide) (fun c4 => ?_) (fun c4 => ?_)
    · replace h := h.2 c4
      refine lv_iconst (v := 0) hx hb d_G_isOpen_25 (by decide) ?_
      exact zz_retz cx hw d_G_isOpen_26 (by decide) h
    · replace h := h.1 c4
      refine lv_iconst (v := 1) hx hb d_G_isOpen_21 (by decide) ?_
      refine lv_goto (tgt := 26) hx hb d_G_isOpen_22 (by decide) ?_
      exact zz_retz cx hw d_G_isOpen_26 (by decide) h
set_option maxRecDepth 100000 in
set_option maxHeartbeats 4000000 in
theorem wk_G_markCells_2 {p : Program} {l : Launch} {e : Env} {s : State} {m : MethodId} {args : Array Value} {below : List Frame} {meth : Method} {c : Code} {A : Nat → Prop} {D : va_G} {cI cZ cL : ClassId} {a : Nat → Nat} (cx : zz_Cx p s m args meth c "GridFills$Grid" b_G_markCells 4 none D zz_cl (zz_ty cI cZ cL) A) (post : zz_St → Prop) {kn2 : Int32 → Int32 → zz_St → Prop} (hkn2 : ∀ (x1 : Int32) (x2 : Int32) (u : zz_St) (H : Heap) (locs : List Loc) (ls : Array Slot), zz_Wd D zz_cl A s.heap H locs (gw_C cI cZ cL a u) → lv_has ls 4 [(0, .ref (a 1)), (1, .int x1), (2, .int x2)] → kn2 x1 x2 u → W p l e (rm_G_markCells) s m args below meth c H locs 0 0 (MQ below (va_Qv post (zz_B D zz_cl (zz_ty cI cZ cL) (gw_C cI cZ cL a) A) A) args s 0 0 A) (F0 m 2 ls [])) : ∀ (x1 : Int32) (x2 : Int32) (u : zz_St) (H : Heap) (locs : List Loc) (ls : Array Slot), zz_Wd D zz_cl A s.heap H locs (gw_C cI cZ cL a u) → lv_has ls 4 [(0, .ref (a 1)), (1, .int x1), (2, .int x2)] → wp_G_markCells_2 post kn2 x1 x2 u → W p l e (rm_G_markCells) s m args below meth c H locs 0 0 (MQ below (va_Qv post (zz_B D zz_cl (zz_ty cI cZ cL) (gw_C cI cZ cL a) A) A) args s 0 0 A) (F0 m 2 ls []) := by
  intro x1 x2 u H locs ls hw hl h
  unfold wp_G_markCells_2 at h
  obtain ⟨hx, hb, hr, hml, hown, hts, hlk, hK, hA⟩ := id cx
  refine lv_iload_n hx hb d_G_markCells_2 rfl (lv_at hl 2 rfl) ?_
  refine lv_aload_n hx hb d_G_markCells_3 rfl (lv_at hl 0 rfl) ?_
  refine zz_get (v2 := .ref (a 8)) cx hw in_G 1 rfl rfl 7 (by decide) kw_16 rfl rfl d_G_markCells_4 ?_
  refine lv_iload_n hx hb d_G_markCells_7 rfl (lv_at hl 1 rfl) ?_
  obtain ⟨hi, h⟩ := h
  refine zz_iald (f2 := sg_a u 3) cx hw 8 0 rfl rfl hi rfl d_G_markCells_8 ?_
  refine lv_icmp_ge (tgt := 49) hx hb d_G_markCells_9 (by decide) (fun c1 => ?_) (fun c1 => ?_)
  · replace h := h.1 c1
    exact zz_retv cx hw d_G_markCells_49 h
  · replace h := h.2 c1
    refine lv_aload_n hx hb d_G_markCells_12 rfl (lv_at hl 0 rfl) ?_
    refine zz_get (v2 := .ref (a 9)) cx hw in_G 1 rfl rfl 8 (by decide) kw_7 rfl rfl d_G_markCells_13 ?_
    refine lv_iload_n hx hb d_G_markCells_16 rfl (lv_at hl 1 rfl) ?_
    obtain ⟨hi, h⟩ := h
    refine zz_iald (f2 := sg_a u 4) cx hw 9 0 rfl rfl hi rfl d_G_markCells_17 ?_
    refine lv_bipush (v := 36) hx hb d_G_markCells_18 (by decide) ?_
    refine lv_imul hx hb d_G_markCells_20 ?_
    refine lv_aload_n hx hb d_G_markCells_21 rfl (lv_at hl 0 rfl) ?_
    refine lv_iload_n hx hb d_G_markCells_22 rfl (lv_at hl 1 rfl) ?_
    refine lv_iload_n hx hb d_G_markCells_23 rfl (lv_at hl 2 rfl) ?_
    refine zz_callVi (As := [.int x1, .int x2]) (rest := [.int ((sg_a u 4 x1.toNatClampNeg) * 36)]) cx hw (ct_G_cellOf l D cI cZ cL a h) (zz_gV kw_17 kw_19 kw_20 kw_13 kw_18) hd_G_cellOf ⟨rfl, rfl⟩ ⟨Nat.le_of_ble_eq_true rfl, Nat.le_of_ble_eq_true rfl⟩ 1 rfl rfl rfl rfl hl.1 rfl (Nat.le_of_ble_eq_true rfl) d_G_markCells_24 (fun r3 s2 H locs h hw => ?_)
    refine lv_iadd hx hb d_G_markCells_27 ?_
    refine lv_topi (fun v4 ev4 => ?_)
    replace h := h v4 ev4
    refine lv_istore_n (lv' := [(3, .int v4), (0, .ref (a 1)), (1, .int x1), (2, .int x2)]) hx hb d_G_markCells_28 rfl hl (by decide) rfl (fun ls hl => ?_)
    refine lv_aload_n hx hb d_G_markCells_29 rfl (lv_at hl 1 rfl) ?_
    refine zz_get (v2 := .ref (a 11)) cx hw in_G 1 rfl rfl 10 (by decide) kw_8 rfl rfl d_G_markCells_30 ?_
    refine lv_iload_n hx hb d_G_markCells_33 rfl (lv_at hl 0 rfl) ?_
    refine lv_iload_n hx hb d_G_markCells_34 rfl (lv_at hl 2 rfl) ?_
    obtain ⟨hi, h⟩ := h
    refine zz_iast (ws' := gw_C cI cZ cL a (ss_a s2 6 (upd (sg_a s2 6) v4.toNatClampNeg x1))) cx hw 11 0 rfl rfl hi rfl (gw_C_a6 _ _ _ _ _ _) d_G_markCells_35 (fun H locs hw => ?_)
    refine lv_aload_n hx hb d_G_markCells_36 rfl (lv_at hl 1 rfl) ?_
    refine zz_get (v2 := .ref (a 12)) cx hw in_G 1 rfl rfl 11 (by decide) kw_9 rfl rfl d_G_markCells_37 ?_
    refine lv_iload_n hx hb d_G_markCells_40 rfl (lv_at hl 0 rfl) ?_
    refine lv_iload_n hx hb d_G_markCells_41 rfl (lv_at hl 3 rfl) ?_
    obtain ⟨hi, h⟩ := h
    refine zz_iast (ws' := gw_C cI cZ cL a (ss_a (ss_a s2 6 (upd (sg_a s2 6) v4.toNatClampNeg x1)) 7 (upd (sg_a s2 7) v4.toNatClampNeg x2))) cx hw 12 0 rfl rfl hi (sy_a _ _ (by decide)) (gw_C_a7 _ _ _ _ _ _) d_G_markCells_42 (fun H locs hw => ?_)
    refine lv_iinc (v := x2 + 1) (lv' := [(2, .int (x2 + 1)), (3, .int v4), (0, .ref (a 1)), (1, .int x1)]) hx hb d_G_markCells_43 hl (k := 3) rfl rfl (by decide) rfl (fun ls hl => ?_)
    refine lv_goto (tgt := 2) hx hb d_G_markCells_46 (by decide) ?_
    exact hkn2 x1 (x2 + 1) (ss_a (ss_a s2 6 (upd (sg_a s2 6) v4.toNatClampNeg x1)) 7 (upd (sg_a s2 7) v4.toNatClampNeg x2)) _ _ _ hw (lv_sub hl [2, 3, 0] rfl) h
set_option maxRecDepth 100000 in
set_option maxHeartbeats 4000000 in
theorem wk_G_markCells_2_f {p : Program} {l : Launch} {e : Env} {s : State} {m : MethodId} {args : Array Value} {below : List Frame} {meth : Method} {c : Code} {A : Nat → Prop} {D : va_G} {cI cZ cL : ClassId} {a : Nat → Nat} (cx : zz_Cx p s m args meth c "GridFills$Grid" b_G_markCells 4 none D zz_cl (zz_ty cI cZ cL) A) (post : zz_St → Prop) : ∀ n : Nat, ∀ (x1 : Int32) (x2 : Int32) (u : zz_St) (H : Heap) (locs : List Loc) (ls : Array Slot), zz_Wd D zz_cl A s.heap H locs (gw_C cI cZ cL a u) → lv_has ls 4 [(0, .ref (a 1)), (1, .int x1), (2, .int x2)] → wp_G_markCells_2_f post n x1 x2 u → W p l e (rm_G_markCells) s m args below meth c H locs 0 0 (MQ below (va_Qv post (zz_B D zz_cl (zz_ty cI cZ cL) (gw_C cI cZ cL a) A) A) args s 0 0 A) (F0 m 2 ls []) := by
  intro n
  induction n with
  | zero => exact fun _ _ _ _ _ _ _ _ h => False.elim h
  | succ n ih => exact wk_G_markCells_2 cx post ih
set_option maxRecDepth 100000 in
set_option maxHeartbeats 4000000 in
theorem ct_G_markCells (l : Launch) (D : va_G) (cI cZ cL : ClassId) (a : Nat → Nat) {a0 : Int32} {u : zz_St} {post : zz_St → Prop} (h : wp_G_markCells  a0 u post) : zz_MV l y_G_markCells (.code y_G_markCells b_G_markCells 4 none :: zz_tbl) (rm_G_markCells) D zz_cl (zz_ty cI cZ cL) (gw_C cI cZ cL a) [.ref (a 1), .int a0] u post := by
  unfold wp_G_markCells at h
  refine zz_ofV (by decide) (Nat.le_of_ble_eq_true rfl) ?_
  intro p e s m below meth c A cx hw ls hl
  obtain ⟨hx, hb, hr, hml, hown, hts, hlk, hK, hA⟩ := id cx
  refine lv_iconst (v := 0) hx hb d_G_markCells_0 (by decide) ?_
  refine lv_istore_n (lv' := [(2, .int 0), (0, .ref (a 1)), (1, .int a0)]) hx hb d_G_markCells_1 rfl hl (by decide) rfl (fun ls hl => ?_)
  obtain ⟨n, h⟩ := h
  exact wk_G_markCells_2_f cx post  n a0 0 u _ _ _ hw (lv_sub hl [1, 2, 0] rfl) h
set_option maxRecDepth 100000 in
set_option maxHeartbeats 4000000 in
theorem wk_G_addSlotFrom_70 {p : Program} {l : Launch} {e : Env} {s : State} {m : MethodId} {args : Array Value} {below : List Frame} {meth : Method} {c : Code} {A : Nat → Prop} {D : va_G} {cI cZ cL : ClassId} {a : Nat → Nat} (cx : zz_Cx p s m args meth c "GridFills$Grid" b_G_addSlotFrom 7 none D zz_cl (zz_ty cI cZ cL) A) (post : zz_St → Prop) : ∀ (x1 : Int32) (x2 : Int32) (x3 : Int32) (x6 : Int32) (u : zz_St) (H : Heap) (locs : List Loc) (ls : Array Slot), zz_Wd D zz_cl A s.heap H locs (gw_C cI cZ cL a u) → lv_has ls 7 [(0, .ref (a 1)), (1, .int x1), (2, .int x2), (3, .int x3), (6, .int x6)] → wp_G_addSlotFrom_70 post x1 x2 x3 x6 u → W p l e (rm_G_addSlotFrom) s m args below meth c H locs 0 0 (MQ below (va_Qv post (zz_B D zz_cl (zz_ty cI cZ cL) (gw_C cI cZ cL a) A) A) args s 0 0 A) (F0 m 70 ls []) := by
  intro x1 x2 x3 x6 u H locs ls hw hl h
  unfold wp_G_addSlotFrom_70 at h
  obtain ⟨hx, hb, hr, hml, hown, hts, hlk, hK, hA⟩ := id cx
  refine lv_iload hx hb d_G_addSlotFrom_70 (lv_at hl 4 rfl) ?_
  refine lv_iconst (v := 2) hx hb d_G_addSlotFrom_72 (by decide) ?_
  refine lv_icmp_lt (tgt := 139) hx hb d_G_addSlotFrom_73 (by decide) (fun c10 => ?_) (fun c10 => ?_)
  · replace h := h.1 c10
    exact zz_retv cx hw d_G_addSlotFrom_139 h
  · replace h := h.2 c10
    refine lv_aload_n hx hb d_G_addSlotFrom_76 rfl (lv_at hl 0 rfl) ?_
    refine zz_get (v2 := .int (sg_i u 3)) cx hw in_G 1 rfl rfl 5 (by decide) kw_5 rfl rfl d_G_addSlotFrom_77 ?_
    refine lv_bipush (v := 24) hx hb d_G_addSlotFrom_80 (by decide) ?_
    refine lv_icmp_ge (tgt := 139) hx hb d_G_addSlotFrom_82 (by decide) (fun c11 => ?_) (fun c11 => ?_)
    · replace h := h.1 c11
      exact zz_retv cx hw d_G_addSlotFrom_139 h
    · replace h := h.2 c11
      refine lv_aload_n hx hb d_G_addSlotFrom_85 rfl (lv_at hl 0 rfl) ?_
      refine zz_get (v2 := .ref (a 7)) cx hw in_G 1 rfl rfl 6 (by decide) kw_6 rfl rfl d_G_addSlotFrom_86 ?_
      refine lv_aload_n hx hb d_G_addSlotFrom_89 rfl (lv_at hl 0 rfl) ?_
      refine zz_get (v2 := .int (sg_i u 3)) cx hw in_G 1 rfl rfl 5 (by decide) kw_5 rfl rfl d_G_addSlotFrom_90 ?_
      refine lv_aload_n hx hb d_G_addSlotFrom_93 rfl (lv_at hl 0 rfl) ?_
      refine lv_iload_n hx hb d_G_addSlotFrom_94 rfl (lv_at hl 1 rfl) ?_
      refine lv_iload_n hx hb d_G_addSlotFrom_95 rfl (lv_at hl 2 rfl) ?_
      refine zz_callVi (As := [.int x1, .int x2]) (rest := [.int (sg_i u 3), .ref (a 7)]) cx hw (ct_G_cellAt l D cI cZ cL a h) (zz_gV kw_11 kw_14 kw_15 kw_13 kw_12) hd_G_cellAt ⟨rfl, rfl⟩ ⟨Nat.le_of_ble_eq_true rfl, Nat.le_of_ble_eq_true rfl⟩ 1 rfl rfl rfl rfl hl.1 rfl (Nat.le_of_ble_eq_true rfl) d_G_addSlotFrom_96 (fun r13 s12 H locs h hw => ?_)
      obtain ⟨hi, h⟩ := h
      refine zz_iast (ws' := gw_C cI cZ cL a (ss_a s12 2 (upd (sg_a s12 2) (sg_i u 3).toNatClampNeg r13))) cx hw 7 0 rfl rfl hi rfl (gw_C_a2 _ _ _ _ _ _) d_G_addSlotFrom_99 (fun H locs hw => ?_)
      refine lv_aload_n hx hb d_G_addSlotFrom_100 rfl (lv_at hl 0 rfl) ?_
      refine zz_get (v2 := .ref (a 8)) cx hw in_G 1 rfl rfl 7 (by decide) kw_16 rfl rfl d_G_addSlotFrom_101 ?_
      refine lv_aload_n hx hb d_G_addSlotFrom_104 rfl (lv_at hl 0 rfl) ?_
      refine zz_get (v2 := .int (sg_i s12 3)) cx hw in_G 1 rfl rfl 5 (by decide) kw_5 rfl (congrArg Value.int (sx_ia _ _ _ _)) d_G_addSlotFrom_105 ?_
      refine lv_iload hx hb d_G_addSlotFrom_108 (lv_at hl 4 rfl) ?_
      obtain ⟨hi, h⟩ := h
      refine zz_iast (ws' := gw_C cI cZ cL a (ss_a (ss_a s12 2 (upd (sg_a s12 2) (sg_i u 3).toNatClampNeg r13)) 3 (upd (sg_a s12 3) (sg_i s12 3).toNatClampNeg x6))) cx hw 8 0 rfl rfl hi (sy_a _ _ (by decide)) (gw_C_a3 _ _ _ _ _ _) d_G_addSlotFrom_110 (fun H locs hw => ?_)
      refine lv_aload_n hx hb d_G_addSlotFrom_111 rfl (lv_at hl 0 rfl) ?_
      refine zz_get (v2 := .ref (a 9)) cx hw in_G 1 rfl rfl 8 (by decide) kw_7 rfl rfl d_G_addSlotFrom_112 ?_
      refine lv_aload_n hx hb d_G_addSlotFrom_115 rfl (lv_at hl 0 rfl) ?_
      refine zz_get (v2 := .int (sg_i s12 3)) cx hw in_G 1 rfl rfl 5 (by decide) kw_5 rfl (congrArg Value.int ((sx_ia _ _ _ _).trans (sx_ia _ _ _ _))) d_G_addSlotFrom_116 ?_
      refine lv_iload_n hx hb d_G_addSlotFrom_119 rfl (lv_at hl 3 rfl) ?_
      obtain ⟨hi, h⟩ := h
      refine zz_iast (ws' := gw_C cI cZ cL a (ss_a (ss_a (ss_a s12 2 (upd (sg_a s12 2) (sg_i u 3).toNatClampNeg r13)) 3 (upd (sg_a s12 3) (sg_i s12 3).toNatClampNeg x6)) 4 (upd (sg_a s12 4) (sg_i s12 3).toNatClampNeg x3))) cx hw 9 0 rfl rfl hi ((sy_a _ _ (by decide)).trans (sy_a _ _ (by decide))) (gw_C_a4 _ _ _ _ _ _) d_G_addSlotFrom_120 (fun H locs hw => ?_)
      refine lv_aload_n hx hb d_G_addSlotFrom_121 rfl (lv_at hl 0 rfl) ?_
      refine lv_aload_n hx hb d_G_addSlotFrom_122 rfl (lv_at hl 0 rfl) ?_
      refine zz_get (v2 := .int (sg_i s12 3)) cx hw in_G 1 rfl rfl 5 (by decide) kw_5 rfl (congrArg Value.int ((sx_ia _ _ _ _).trans ((sx_ia _ _ _ _).trans (sx_ia _ _ _ _)))) d_G_addSlotFrom_123 ?_
      refine zz_callVv (As := [.int (sg_i s12 3)]) (rest := []) cx hw (ct_G_markCells l D cI cZ cL a h) (zz_gV kw_25 kw_27 kw_28 kw_13 kw_26) hd_G_markCells ⟨rfl, rfl⟩ ⟨Nat.le_of_ble_eq_true rfl, Nat.le_of_ble_eq_true rfl⟩ 1 rfl rfl rfl rfl hl.1 rfl (Nat.le_of_ble_eq_true rfl) d_G_addSlotFrom_126 (fun s14 H locs h hw => ?_)
      refine lv_aload_n hx hb d_G_addSlotFrom_129 rfl (lv_at hl 0 rfl) ?_
      refine lv_dup hx hb d_G_addSlotFrom_130 rfl ?_
      refine zz_get (v2 := .int (sg_i s14 3)) cx hw in_G 1 rfl rfl 5 (by decide) kw_5 rfl rfl d_G_addSlotFrom_131 ?_
      refine lv_iconst (v := 1) hx hb d_G_addSlotFrom_134 (by decide) ?_
      refine lv_iadd hx hb d_G_addSlotFrom_135 ?_
      refine lv_topi (fun v15 ev15 => ?_)
      replace h := h v15 ev15
      refine zz_put (v := .int v15) (ws' := gw_C cI cZ cL a (ss_i s14 3 v15)) cx hw in_G ty_G tk_G nm_G 1 rfl rfl 5 (by decide) kw_5 rfl ⟨rfl, rfl⟩ (Nat.le_of_ble_eq_true rfl) (gw_C_i3 _ _ _ _ _ _) d_G_addSlotFrom_136 (fun H locs hw => ?_)
      exact zz_retv cx hw d_G_addSlotFrom_139 h
set_option maxRecDepth 100000 in
set_option maxHeartbeats 4000000 in
theorem wk_G_addSlotFrom_36 {p : Program} {l : Launch} {e : Env} {s : State} {m : MethodId} {args : Array Value} {below : List Frame} {meth : Method} {c : Code} {A : Nat → Prop} {D : va_G} {cI cZ cL : ClassId} {a : Nat → Nat} (cx : zz_Cx p s m args meth c "GridFills$Grid" b_G_addSlotFrom 7 none D zz_cl (zz_ty cI cZ cL) A) (post : zz_St → Prop) {kn36 : Int32 → Int32 → Int32 → Int32 → Int32 → Int32 → zz_St → Prop} (hkn36 : ∀ (x1 : Int32) (x2 : Int32) (x3 : Int32) (x4 : Int32) (x5 : Int32) (x6 : Int32) (u : zz_St) (H : Heap) (locs : List Loc) (ls : Array Slot), zz_Wd D zz_cl A s.heap H locs (gw_C cI cZ cL a u) → lv_has ls 7 [(0, .ref (a 1)), (1, .int x1), (2, .int x2), (3, .int x3), (4, .int x4), (5, .int x5), (6, .int x6)] → kn36 x1 x2 x3 x4 x5 x6 u → W p l e (rm_G_addSlotFrom) s m args below meth c H locs 0 0 (MQ below (va_Qv post (zz_B D zz_cl (zz_ty cI cZ cL) (gw_C cI cZ cL a) A) A) args s 0 0 A) (F0 m 36 ls [])) : ∀ (x1 : Int32) (x2 : Int32) (x3 : Int32) (x4 : Int32) (x5 : Int32) (x6 : Int32) (u : zz_St) (H : Heap) (locs : List Loc) (ls : Array Slot), zz_Wd D zz_cl A s.heap H locs (gw_C cI cZ cL a u) → lv_has ls 7 [(0, .ref (a 1)), (1, .int x1), (2, .int x2), (3, .int x3), (4, .int x4), (5, .int x5), (6, .int x6)] → wp_G_addSlotFrom_36 post kn36 x1 x2 x3 x4 x5 x6 u → W p l e (rm_G_addSlotFrom) s m args below meth c H locs 0 0 (MQ below (va_Qv post (zz_B D zz_cl (zz_ty cI cZ cL) (gw_C cI cZ cL a) A) A) args s 0 0 A) (F0 m 36 ls []) := by
  intro x1 x2 x3 x4 x5 x6 u H locs ls hw hl h
  unfold wp_G_addSlotFrom_36 at h
  obtain ⟨hx, hb, hr, hml, hown, hts, hlk, hK, hA⟩ := id cx
  refine lv_iload hx hb d_G_addSlotFrom_36 (lv_at hl 6 rfl) ?_
  refine lv_bipush (v := 6) hx hb d_G_addSlotFrom_38 (by decide) ?_
  refine lv_icmp_ge (tgt := 70) hx hb d_G_addSlotFrom_40 (by decide) (fun c6 => ?_) (fun c6 => ?_)
  · replace h := h.1 c6
    exact wk_G_addSlotFrom_70 cx post  x1 x2 x3 x6 u _ _ _ hw (lv_sub hl [0, 1, 2, 3, 6] rfl) h
  · replace h := h.2 c6
    refine lv_aload_n hx hb d_G_addSlotFrom_43 rfl (lv_at hl 0 rfl) ?_
    refine lv_iload_n hx hb d_G_addSlotFrom_44 rfl (lv_at hl 1 rfl) ?_
    refine lv_iload hx hb d_G_addSlotFrom_45 (lv_at hl 6 rfl) ?_
    refine lv_iload hx hb d_G_addSlotFrom_47 (lv_at hl 4 rfl) ?_
    refine lv_imul hx hb d_G_addSlotFrom_49 ?_
    refine lv_iadd hx hb d_G_addSlotFrom_50 ?_
    refine lv_iload_n hx hb d_G_addSlotFrom_51 rfl (lv_at hl 2 rfl) ?_
    refine lv_iload hx hb d_G_addSlotFrom_52 (lv_at hl 6 rfl) ?_
    refine lv_iload hx hb d_G_addSlotFrom_54 (lv_at hl 5 rfl) ?_
    refine lv_imul hx hb d_G_addSlotFrom_56 ?_
    refine lv_iadd hx hb d_G_addSlotFrom_57 ?_
    refine zz_callVi (As := [.int (x1 + (x6 * x4)), .int (x2 + (x6 * x5))]) (rest := []) cx hw (ct_G_isOpen l D cI cZ cL a h) (zz_gV kw_21 kw_23 kw_24 kw_13 kw_22) hd_G_isOpen ⟨rfl, rfl⟩ ⟨Nat.le_of_ble_eq_true rfl, Nat.le_of_ble_eq_true rfl⟩ 1 rfl rfl rfl rfl hl.1 rfl (Nat.le_of_ble_eq_true rfl) d_G_addSlotFrom_58 (fun r8 s7 H locs h hw => ?_)
    refine lv_if_eq (tgt := 70) hx hb d_G_addSlotFrom_61 (by decide) (fun c9 => ?_) (fun c9 => ?_)
    · replace h := h.1 c9
      exact wk_G_addSlotFrom_70 cx post  x1 x2 x3 x6 s7 _ _ _ hw (lv_sub hl [0, 1, 2, 3, 6] rfl) h
    · replace h := h.2 c9
      refine lv_iinc (v := x6 + 1) (lv' := [(6, .int (x6 + 1)), (0, .ref (a 1)), (1, .int x1), (2, .int x2), (3, .int x3), (4, .int x4), (5, .int x5)]) hx hb d_G_addSlotFrom_64 hl (k := 6) rfl rfl (by decide) rfl (fun ls hl => ?_)
      refine lv_goto (tgt := 36) hx hb d_G_addSlotFrom_67 (by decide) ?_
      exact hkn36 x1 x2 x3 x4 x5 (x6 + 1) s7 _ _ _ hw (lv_sub hl [1, 2, 3, 4, 5, 6, 0] rfl) h
set_option maxRecDepth 100000 in
set_option maxHeartbeats 4000000 in
theorem wk_G_addSlotFrom_36_f {p : Program} {l : Launch} {e : Env} {s : State} {m : MethodId} {args : Array Value} {below : List Frame} {meth : Method} {c : Code} {A : Nat → Prop} {D : va_G} {cI cZ cL : ClassId} {a : Nat → Nat} (cx : zz_Cx p s m args meth c "GridFills$Grid" b_G_addSlotFrom 7 none D zz_cl (zz_ty cI cZ cL) A) (post : zz_St → Prop) : ∀ n : Nat, ∀ (x1 : Int32) (x2 : Int32) (x3 : Int32) (x4 : Int32) (x5 : Int32) (x6 : Int32) (u : zz_St) (H : Heap) (locs : List Loc) (ls : Array Slot), zz_Wd D zz_cl A s.heap H locs (gw_C cI cZ cL a u) → lv_has ls 7 [(0, .ref (a 1)), (1, .int x1), (2, .int x2), (3, .int x3), (4, .int x4), (5, .int x5), (6, .int x6)] → wp_G_addSlotFrom_36_f post n x1 x2 x3 x4 x5 x6 u → W p l e (rm_G_addSlotFrom) s m args below meth c H locs 0 0 (MQ below (va_Qv post (zz_B D zz_cl (zz_ty cI cZ cL) (gw_C cI cZ cL a) A) A) args s 0 0 A) (F0 m 36 ls []) := by
  intro n
  induction n with
  | zero => exact fun _ _ _ _ _ _ _ _ _ _ _ _ h => False.elim h
  | succ n ih => exact wk_G_addSlotFrom_36 cx post ih
set_option maxRecDepth 100000 in
set_option maxHeartbeats 4000000 in
theorem wk_G_addSlotFrom_9 {p : Program} {l : Launch} {e : Env} {s : State} {m : MethodId} {args : Array Value} {below : List Frame} {meth : Method} {c : Code} {A : Nat → Prop} {D : va_G} {cI cZ cL : ClassId} {a : Nat → Nat} (cx : zz_Cx p s m args meth c "GridFills$Grid" b_G_addSlotFrom 7 none D zz_cl (zz_ty cI cZ cL) A) (post : zz_St → Prop) : ∀ (x1 : Int32) (x2 : Int32) (x3 : Int32) (y0 : Int32) (u : zz_St) (H : Heap) (locs : List Loc) (ls : Array Slot), zz_Wd D zz_cl A s.heap H locs (gw_C cI cZ cL a u) → lv_has ls 7 [(0, .ref (a 1)), (1, .int x1), (2, .int x2), (3, .int x3)] → wp_G_addSlotFrom_9 post x1 x2 x3 y0 u → W p l e (rm_G_addSlotFrom) s m args below meth c H locs 0 0 (MQ below (va_Qv post (zz_B D zz_cl (zz_ty cI cZ cL) (gw_C cI cZ cL a) A) A) args s 0 0 A) (F0 m 9 ls [.int y0]) := by
  intro x1 x2 x3 y0 u H locs ls hw hl h
  unfold wp_G_addSlotFrom_9 at h
  obtain ⟨hx, hb, hr, hml, hown, hts, hlk, hK, hA⟩ := id cx
  refine lv_istore (lv' := [(4, .int y0), (0, .ref (a 1)), (1, .int x1), (2, .int x2), (3, .int x3)]) hx hb d_G_addSlotFrom_9 hl (by decide) rfl (fun ls hl => ?_)
  refine lv_iconst (v := 1) hx hb d_G_addSlotFrom_11 (by decide) ?_
  refine lv_iload hx hb d_G_addSlotFrom_12 (lv_at hl 0 rfl) ?_
  refine lv_isub hx hb d_G_addSlotFrom_14 ?_
  refine lv_topi (fun v2 ev2 => ?_)
  replace h := h v2 ev2
  refine lv_istore (lv' := [(5, .int v2), (4, .int y0), (0, .ref (a 1)), (1, .int x1), (2, .int x2), (3, .int x3)]) hx hb d_G_addSlotFrom_15 hl (by decide) rfl (fun ls hl => ?_)
  refine lv_aload_n hx hb d_G_addSlotFrom_17 rfl (lv_at hl 2 rfl) ?_
  refine lv_iload_n hx hb d_G_addSlotFrom_18 rfl (lv_at hl 3 rfl) ?_
  refine lv_iload hx hb d_G_addSlotFrom_19 (lv_at hl 1 rfl) ?_
  refine lv_isub hx hb d_G_addSlotFrom_21 ?_
  refine lv_iload_n hx hb d_G_addSlotFrom_22 rfl (lv_at hl 4 rfl) ?_
  refine lv_iload hx hb d_G_addSlotFrom_23 (lv_at hl 0 rfl) ?_
  refine lv_isub hx hb d_G_addSlotFrom_25 ?_
  refine zz_callVi (As := [.int (x1 - y0), .int (x2 - v2)]) (rest := []) cx hw (ct_G_isOpen l D cI cZ cL a h) (zz_gV kw_21 kw_23 kw_24 kw_13 kw_22) hd_G_isOpen ⟨rfl, rfl⟩ ⟨Nat.le_of_ble_eq_true rfl, Nat.le_of_ble_eq_true rfl⟩ 1 rfl rfl rfl rfl hl.1 rfl (Nat.le_of_ble_eq_true rfl) d_G_addSlotFrom_26 (fun r4 s3 H locs h hw => ?_)
  refine lv_if_eq (tgt := 33) hx hb d_G_addSlotFrom_29 (by decide) (fun c5 => ?_) (fun c5 => ?_)
  · replace h := h.1 c5
    refine lv_iconst (v := 0) hx hb d_G_addSlotFrom_33 (by decide) ?_
    refine lv_istore (lv' := [(6, .int 0), (5, .int v2), (4, .int y0), (0, .ref (a 1)), (1, .int x1), (2, .int x2), (3, .int x3)]) hx hb d_G_addSlotFrom_34 hl (by decide) rfl (fun ls hl => ?_)
    obtain ⟨n, h⟩ := h
    exact wk_G_addSlotFrom_36_f cx post  n x1 x2 x3 y0 v2 0 s3 _ _ _ hw (lv_sub hl [3, 4, 5, 6, 2, 1, 0] rfl) h
  · replace h := h.2 c5
    exact zz_retv cx hw d_G_addSlotFrom_32 h
set_option maxRecDepth 100000 in
set_option maxHeartbeats 4000000 in
theorem ct_G_addSlotFrom (l : Launch) (D : va_G) (cI cZ cL : ClassId) (a : Nat → Nat) {a0 : Int32} {a1 : Int32} {a2 : Int32} {u : zz_St} {post : zz_St → Prop} (h : wp_G_addSlotFrom  a0 a1 a2 u post) : zz_MV l y_G_addSlotFrom (.code y_G_addSlotFrom b_G_addSlotFrom 7 none :: zz_tbl) (rm_G_addSlotFrom) D zz_cl (zz_ty cI cZ cL) (gw_C cI cZ cL a) [.ref (a 1), .int a0, .int a1, .int a2] u post := by
  unfold wp_G_addSlotFrom at h
  refine zz_ofV (by decide) (Nat.le_of_ble_eq_true rfl) ?_
  intro p e s m below meth c A cx hw ls hl
  obtain ⟨hx, hb, hr, hml, hown, hts, hlk, hK, hA⟩ := id cx
  refine lv_iload_n hx hb d_G_addSlotFrom_0 rfl (lv_at hl 3 rfl) ?_
  refine lv_if_ne (tgt := 8) hx hb d_G_addSlotFrom_1 (by decide) (fun c1 => ?_) (fun c1 => ?_)
  · replace h := h.2 c1
    refine lv_iconst (v := 0) hx hb d_G_addSlotFrom_8 (by decide) ?_
    exact wk_G_addSlotFrom_9 cx post  a0 a1 a2 0 u _ _ _ hw (lv_sub hl [0, 1, 2, 3] rfl) h
  · replace h := h.1 c1
    refine lv_iconst (v := 1) hx hb d_G_addSlotFrom_4 (by decide) ?_
    refine lv_goto (tgt := 9) hx hb d_G_addSlotFrom_5 (by decide) ?_
    exact wk_G_addSlotFrom_9 cx post  a0 a1 a2 1 u _ _ _ hw (lv_sub hl [0, 1, 2, 3] rfl) h
set_option maxRecDepth 100000 in
set_option maxHeartbeats 4000000 in
theorem wk_G_findSlots_40 {p : Program} {l : Launch} {e : Env} {s : State} {m : MethodId} {args : Array Value} {below : List Frame} {meth : Method} {c : Code} {A : Nat → Prop} {D : va_G} {cI cZ cL : ClassId} {a : Nat → Nat} (cx : zz_Cx p s m args meth c "GridFills$Grid" b_G_findSlots 4 none D zz_cl (zz_ty cI cZ cL) A) (post : zz_St → Prop) {kn23 : Int32 → zz_St → Prop} {kn30 : Int32 → Int32 → zz_St → Prop} {kn40 : Int32 → Int32 → Int32 → zz_St → Prop} (hkn23 : ∀ (x1 : Int32) (u : zz_St) (H : Heap) (locs : List Loc) (ls : Array Slot), zz_Wd D zz_cl A s.heap H locs (gw_C cI cZ cL a u) → lv_has ls 4 [(0, .ref (a 1)), (1, .int x1)] → kn23 x1 u → W p l e (rm_G_findSlots) s m args below meth c H locs 0 0 (MQ below (va_Qv post (zz_B D zz_cl (zz_ty cI cZ cL) (gw_C cI cZ cL a) A) A) args s 0 0 A) (F0 m 23 ls [])) (hkn30 : ∀ (x1 : Int32) (x2 : Int32) (u : zz_St) (H : Heap) (locs : List Loc) (ls : Array Slot), zz_Wd D zz_cl A s.heap H locs (gw_C cI cZ cL a u) → lv_has ls 4 [(0, .ref (a 1)), (1, .int x1), (2, .int x2)] → kn30 x1 x2 u → W p l e (rm_G_findSlots) s m args below meth c H locs 0 0 (MQ below (va_Qv post (zz_B D zz_cl (zz_ty cI cZ cL) (gw_C cI cZ cL a) A) A) args s 0 0 A) (F0 m 30 ls [])) (hkn40 : ∀ (x1 : Int32) (x2 : Int32) (x3 : Int32) (u : zz_St) (H : Heap) (locs : List Loc) (ls : Array Slot), zz_Wd D zz_cl A s.heap H locs (gw_C cI cZ cL a u) → lv_has ls 4 [(0, .ref (a 1)), (1, .int x1), (2, .int x2), (3, .int x3)] → kn40 x1 x2 x3 u → W p l e (rm_G_findSlots) s m args below meth c H locs 0 0 (MQ below (va_Qv post (zz_B D zz_cl (zz_ty cI cZ cL) (gw_C cI cZ cL a) A) A) args s 0 0 A) (F0 m 40 ls [])) : ∀ (x1 : Int32) (x2 : Int32) (x3 : Int32) (u : zz_St) (H : Heap) (locs : List Loc) (ls : Array Slot), zz_Wd D zz_cl A s.heap H locs (gw_C cI cZ cL a u) → lv_has ls 4 [(0, .ref (a 1)), (1, .int x1), (2, .int x2), (3, .int x3)] → wp_G_findSlots_40 post kn23 kn30 kn40 x1 x2 x3 u → W p l e (rm_G_findSlots) s m args below meth c H locs 0 0 (MQ below (va_Qv post (zz_B D zz_cl (zz_ty cI cZ cL) (gw_C cI cZ cL a) A) A) args s 0 0 A) (F0 m 40 ls []) := by
  intro x1 x2 x3 u H locs ls hw hl h
  unfold wp_G_findSlots_40 at h
  obtain ⟨hx, hb, hr, hml, hown, hts, hlk, hK, hA⟩ := id cx
  refine lv_iload_n hx hb d_G_findSlots_40 rfl (lv_at hl 3 rfl) ?_
  refine lv_aload_n hx hb d_G_findSlots_41 rfl (lv_at hl 0 rfl) ?_
  refine zz_get (v2 := .int (sg_i u 0)) cx hw in_G 1 rfl rfl 0 (by decide) kw_3 rfl rfl d_G_findSlots_42 ?_
  refine lv_icmp_ge (tgt := 61) hx hb d_G_findSlots_45 (by decide) (fun c5 => ?_) (fun c5 => ?_)
  · replace h := h.1 c5
    refine lv_iinc (v := x2 + 1) (lv' := [(2, .int (x2 + 1)), (0, .ref (a 1)), (1, .int x1), (3, .int x3)]) hx hb d_G_findSlots_61 hl (k := 2) rfl rfl (by decide) rfl (fun ls hl => ?_)
    refine lv_goto (tgt := 30) hx hb d_G_findSlots_64 (by decide) ?_
    exact hkn30 x1 (x2 + 1) u _ _ _ hw (lv_sub hl [1, 2, 0] rfl) h
  · replace h := h.2 c5
    refine lv_aload_n hx hb d_G_findSlots_48 rfl (lv_at hl 0 rfl) ?_
    refine lv_iload_n hx hb d_G_findSlots_49 rfl (lv_at hl 3 rfl) ?_
    refine lv_iload_n hx hb d_G_findSlots_50 rfl (lv_at hl 2 rfl) ?_
    refine lv_iload_n hx hb d_G_findSlots_51 rfl (lv_at hl 1 rfl) ?_
    refine zz_callVv (As := [.int x3, .int x2, .int x1]) (rest := []) cx hw (ct_G_addSlotFrom l D cI cZ cL a h) (zz_gV kw_34 kw_36 kw_37 kw_13 kw_35) hd_G_addSlotFrom ⟨rfl, rfl⟩ ⟨Nat.le_of_ble_eq_true rfl, Nat.le_of_ble_eq_true rfl⟩ 1 rfl rfl rfl rfl hl.1 rfl (Nat.le_of_ble_eq_true rfl) d_G_findSlots_52 (fun s6 H locs h hw => ?_)
    refine lv_iinc (v := x3 + 1) (lv' := [(3, .int (x3 + 1)), (0, .ref (a 1)), (1, .int x1), (2, .int x2)]) hx hb d_G_findSlots_55 hl (k := 3) rfl rfl (by decide) rfl (fun ls hl => ?_)
    refine lv_goto (tgt := 40) hx hb d_G_findSlots_58 (by decide) ?_
    exact hkn40 x1 x2 (x3 + 1) s6 _ _ _ hw (lv_sub hl [1, 2, 3, 0] rfl) h
set_option maxRecDepth 100000 in
set_option maxHeartbeats 4000000 in
theorem wk_G_findSlots_40_f {p : Program} {l : Launch} {e : Env} {s : State} {m : MethodId} {args : Array Value} {below : List Frame} {meth : Method} {c : Code} {A : Nat → Prop} {D : va_G} {cI cZ cL : ClassId} {a : Nat → Nat} (cx : zz_Cx p s m args meth c "GridFills$Grid" b_G_findSlots 4 none D zz_cl (zz_ty cI cZ cL) A) (post : zz_St → Prop) {kn23 : Int32 → zz_St → Prop} {kn30 : Int32 → Int32 → zz_St → Prop} (hkn23 : ∀ (x1 : Int32) (u : zz_St) (H : Heap) (locs : List Loc) (ls : Array Slot), zz_Wd D zz_cl A s.heap H locs (gw_C cI cZ cL a u) → lv_has ls 4 [(0, .ref (a 1)), (1, .int x1)] → kn23 x1 u → W p l e (rm_G_findSlots) s m args below meth c H locs 0 0 (MQ below (va_Qv post (zz_B D zz_cl (zz_ty cI cZ cL) (gw_C cI cZ cL a) A) A) args s 0 0 A) (F0 m 23 ls [])) (hkn30 : ∀ (x1 : Int32) (x2 : Int32) (u : zz_St) (H : Heap) (locs : List Loc) (ls : Array Slot), zz_Wd D zz_cl A s.heap H locs (gw_C cI cZ cL a u) → lv_has ls 4 [(0, .ref (a 1)), (1, .int x1), (2, .int x2)] → kn30 x1 x2 u → W p l e (rm_G_findSlots) s m args below meth c H locs 0 0 (MQ below (va_Qv post (zz_B D zz_cl (zz_ty cI cZ cL) (gw_C cI cZ cL a) A) A) args s 0 0 A) (F0 m 30 ls [])) : ∀ n : Nat, ∀ (x1 : Int32) (x2 : Int32) (x3 : Int32) (u : zz_St) (H : Heap) (locs : List Loc) (ls : Array Slot), zz_Wd D zz_cl A s.heap H locs (gw_C cI cZ cL a u) → lv_has ls 4 [(0, .ref (a 1)), (1, .int x1), (2, .int x2), (3, .int x3)] → wp_G_findSlots_40_f post kn23 kn30 n x1 x2 x3 u → W p l e (rm_G_findSlots) s m args below meth c H locs 0 0 (MQ below (va_Qv post (zz_B D zz_cl (zz_ty cI cZ cL) (gw_C cI cZ cL a) A) A) args s 0 0 A) (F0 m 40 ls []) := by
  intro n
  induction n with
  | zero => exact fun _ _ _ _ _ _ _ _ _ h => False.elim h
  | succ n ih => exact wk_G_findSlots_40 cx post hkn23 hkn30 ih
set_option maxRecDepth 100000 in
set_option maxHeartbeats 4000000 in
theorem wk_G_findSlots_30 {p : Program} {l : Launch} {e : Env} {s : State} {m : MethodId} {args : Array Value} {below : List Frame} {meth : Method} {c : Code} {A : Nat → Prop} {D : va_G} {cI cZ cL : ClassId} {a : Nat → Nat} (cx : zz_Cx p s m args meth c "GridFills$Grid" b_G_findSlots 4 none D zz_cl (zz_ty cI cZ cL) A) (post : zz_St → Prop) {kn23 : Int32 → zz_St → Prop} {kn30 : Int32 → Int32 → zz_St → Prop} (hkn23 : ∀ (x1 : Int32) (u : zz_St) (H : Heap) (locs : List Loc) (ls : Array Slot), zz_Wd D zz_cl A s.heap H locs (gw_C cI cZ cL a u) → lv_has ls 4 [(0, .ref (a 1)), (1, .int x1)] → kn23 x1 u → W p l e (rm_G_findSlots) s m args below meth c H locs 0 0 (MQ below (va_Qv post (zz_B D zz_cl (zz_ty cI cZ cL) (gw_C cI cZ cL a) A) A) args s 0 0 A) (F0 m 23 ls [])) (hkn30 : ∀ (x1 : Int32) (x2 : Int32) (u : zz_St) (H : Heap) (locs : List Loc) (ls : Array Slot), zz_Wd D zz_cl A s.heap H locs (gw_C cI cZ cL a u) → lv_has ls 4 [(0, .ref (a 1)), (1, .int x1), (2, .int x2)] → kn30 x1 x2 u → W p l e (rm_G_findSlots) s m args below meth c H locs 0 0 (MQ below (va_Qv post (zz_B D zz_cl (zz_ty cI cZ cL) (gw_C cI cZ cL a) A) A) args s 0 0 A) (F0 m 30 ls [])) : ∀ (x1 : Int32) (x2 : Int32) (u : zz_St) (H : Heap) (locs : List Loc) (ls : Array Slot), zz_Wd D zz_cl A s.heap H locs (gw_C cI cZ cL a u) → lv_has ls 4 [(0, .ref (a 1)), (1, .int x1), (2, .int x2)] → wp_G_findSlots_30 post kn23 kn30 x1 x2 u → W p l e (rm_G_findSlots) s m args below meth c H locs 0 0 (MQ below (va_Qv post (zz_B D zz_cl (zz_ty cI cZ cL) (gw_C cI cZ cL a) A) A) args s 0 0 A) (F0 m 30 ls []) := by
  intro x1 x2 u H locs ls hw hl h
  unfold wp_G_findSlots_30 at h
  obtain ⟨hx, hb, hr, hml, hown, hts, hlk, hK, hA⟩ := id cx
  refine lv_iload_n hx hb d_G_findSlots_30 rfl (lv_at hl 2 rfl) ?_
  refine lv_aload_n hx hb d_G_findSlots_31 rfl (lv_at hl 0 rfl) ?_
  refine zz_get (v2 := .int (sg_i u 1)) cx hw in_G 1 rfl rfl 1 (by decide) kw_4 rfl rfl d_G_findSlots_32 ?_
  refine lv_icmp_ge (tgt := 67) hx hb d_G_findSlots_35 (by decide) (fun c4 => ?_) (fun c4 => ?_)
  · replace h := h.1 c4
    refine lv_iinc (v := x1 + 1) (lv' := [(1, .int (x1 + 1)), (0, .ref (a 1)), (2, .int x2)]) hx hb d_G_findSlots_67 hl (k := 1) rfl rfl (by decide) rfl (fun ls hl => ?_)
    refine lv_goto (tgt := 23) hx hb d_G_findSlots_70 (by decide) ?_
    exact hkn23 (x1 + 1) u _ _ _ hw (lv_sub hl [1, 0] rfl) h
  · replace h := h.2 c4
    refine lv_iconst (v := 0) hx hb d_G_findSlots_38 (by decide) ?_
    refine lv_istore_n (lv' := [(3, .int 0), (0, .ref (a 1)), (1, .int x1), (2, .int x2)]) hx hb d_G_findSlots_39 rfl hl (by decide) rfl (fun ls hl => ?_)
    obtain ⟨n, h⟩ := h
    exact wk_G_findSlots_40_f cx post hkn23 hkn30 n x1 x2 0 u _ _ _ hw (lv_sub hl [1, 2, 3, 0] rfl) h
set_option maxRecDepth 100000 in
set_option maxHeartbeats 4000000 in
theorem wk_G_findSlots_30_f {p : Program} {l : Launch} {e : Env} {s : State} {m : MethodId} {args : Array Value} {below : List Frame} {meth : Method} {c : Code} {A : Nat → Prop} {D : va_G} {cI cZ cL : ClassId} {a : Nat → Nat} (cx : zz_Cx p s m args meth c "GridFills$Grid" b_G_findSlots 4 none D zz_cl (zz_ty cI cZ cL) A) (post : zz_St → Prop) {kn23 : Int32 → zz_St → Prop} (hkn23 : ∀ (x1 : Int32) (u : zz_St) (H : Heap) (locs : List Loc) (ls : Array Slot), zz_Wd D zz_cl A s.heap H locs (gw_C cI cZ cL a u) → lv_has ls 4 [(0, .ref (a 1)), (1, .int x1)] → kn23 x1 u → W p l e (rm_G_findSlots) s m args below meth c H locs 0 0 (MQ below (va_Qv post (zz_B D zz_cl (zz_ty cI cZ cL) (gw_C cI cZ cL a) A) A) args s 0 0 A) (F0 m 23 ls [])) : ∀ n : Nat, ∀ (x1 : Int32) (x2 : Int32) (u : zz_St) (H : Heap) (locs : List Loc) (ls : Array Slot), zz_Wd D zz_cl A s.heap H locs (gw_C cI cZ cL a u) → lv_has ls 4 [(0, .ref (a 1)), (1, .int x1), (2, .int x2)] → wp_G_findSlots_30_f post kn23 n x1 x2 u → W p l e (rm_G_findSlots) s m args below meth c H locs 0 0 (MQ below (va_Qv post (zz_B D zz_cl (zz_ty cI cZ cL) (gw_C cI cZ cL a) A) A) args s 0 0 A) (F0 m 30 ls []) := by
  intro n
  induction n with
  | zero => exact fun _ _ _ _ _ _ _ _ h => False.elim h
  | succ n ih => exact wk_G_findSlots_30 cx post hkn23 ih
set_option maxRecDepth 100000 in
set_option maxHeartbeats 4000000 in
theorem wk_G_findSlots_23 {p : Program} {l : Launch} {e : Env} {s : State} {m : MethodId} {args : Array Value} {below : List Frame} {meth : Method} {c : Code} {A : Nat → Prop} {D : va_G} {cI cZ cL : ClassId} {a : Nat → Nat} (cx : zz_Cx p s m args meth c "GridFills$Grid" b_G_findSlots 4 none D zz_cl (zz_ty cI cZ cL) A) (post : zz_St → Prop) {kn23 : Int32 → zz_St → Prop} (hkn23 : ∀ (x1 : Int32) (u : zz_St) (H : Heap) (locs : List Loc) (ls : Array Slot), zz_Wd D zz_cl A s.heap H locs (gw_C cI cZ cL a u) → lv_has ls 4 [(0, .ref (a 1)), (1, .int x1)] → kn23 x1 u → W p l e (rm_G_findSlots) s m args below meth c H locs 0 0 (MQ below (va_Qv post (zz_B D zz_cl (zz_ty cI cZ cL) (gw_C cI cZ cL a) A) A) args s 0 0 A) (F0 m 23 ls [])) : ∀ (x1 : Int32) (u : zz_St) (H : Heap) (locs : List Loc) (ls : Array Slot), zz_Wd D zz_cl A s.heap H locs (gw_C cI cZ cL a u) → lv_has ls 4 [(0, .ref (a 1)), (1, .int x1)] → wp_G_findSlots_23 post kn23 x1 u → W p l e (rm_G_findSlots) s m args below meth c H locs 0 0 (MQ below (va_Qv post (zz_B D zz_cl (zz_ty cI cZ cL) (gw_C cI cZ cL a) A) A) args s 0 0 A) (F0 m 23 ls []) := by
  intro x1 u H locs ls hw hl h
  unfold wp_G_findSlots_23 at h
  obtain ⟨hx, hb, hr, hml, hown, hts, hlk, hK, hA⟩ := id cx
  refine lv_iload_n hx hb d_G_findSlots_23 rfl (lv_at hl 1 rfl) ?_
  refine lv_iconst (v := 1) hx hb d_G_findSlots_24 (by decide) ?_
  refine lv_icmp_gt (tgt := 73) hx hb d_G_findSlots_25 (by decide) (fun c3 => ?_) (fun c3 => ?_)
  · replace h := h.1 c3
    exact zz_retv cx hw d_G_findSlots_73 h
  · replace h := h.2 c3
    refine lv_iconst (v := 0) hx hb d_G_findSlots_28 (by decide) ?_
    refine lv_istore_n (lv' := [(2, .int 0), (0, .ref (a 1)), (1, .int x1)]) hx hb d_G_findSlots_29 rfl hl (by decide) rfl (fun ls hl => ?_)
    obtain ⟨n, h⟩ := h
    exact wk_G_findSlots_30_f cx post hkn23 n x1 0 u _ _ _ hw (lv_sub hl [1, 2, 0] rfl) h
set_option maxRecDepth 100000 in
set_option maxHeartbeats 4000000 in
theorem wk_G_findSlots_23_f {p : Program} {l : Launch} {e : Env} {s : State} {m : MethodId} {args : Array Value} {below : List Frame} {meth : Method} {c : Code} {A : Nat → Prop} {D : va_G} {cI cZ cL : ClassId} {a : Nat → Nat} (cx : zz_Cx p s m args meth c "GridFills$Grid" b_G_findSlots 4 none D zz_cl (zz_ty cI cZ cL) A) (post : zz_St → Prop) : ∀ n : Nat, ∀ (x1 : Int32) (u : zz_St) (H : Heap) (locs : List Loc) (ls : Array Slot), zz_Wd D zz_cl A s.heap H locs (gw_C cI cZ cL a u) → lv_has ls 4 [(0, .ref (a 1)), (1, .int x1)] → wp_G_findSlots_23_f post n x1 u → W p l e (rm_G_findSlots) s m args below meth c H locs 0 0 (MQ below (va_Qv post (zz_B D zz_cl (zz_ty cI cZ cL) (gw_C cI cZ cL a) A) A) args s 0 0 A) (F0 m 23 ls []) := by
  intro n
  induction n with
  | zero => exact fun _ _ _ _ _ _ _ h => False.elim h
  | succ n ih => exact wk_G_findSlots_23 cx post ih
set_option maxRecDepth 100000 in
set_option maxHeartbeats 4000000 in
theorem ct_G_findSlots (l : Launch) (D : va_G) (cI cZ cL : ClassId) (a : Nat → Nat) {u : zz_St} {post : zz_St → Prop} (h : wp_G_findSlots  u post) : zz_MV l y_G_findSlots (.code y_G_findSlots b_G_findSlots 4 none :: zz_tbl) (rm_G_findSlots) D zz_cl (zz_ty cI cZ cL) (gw_C cI cZ cL a) [.ref (a 1)] u post := by
  unfold wp_G_findSlots at h
  refine zz_ofV (by decide) (Nat.le_of_ble_eq_true rfl) ?_
  intro p e s m below meth c A cx hw ls hl
  obtain ⟨hx, hb, hr, hml, hown, hts, hlk, hK, hA⟩ := id cx
  refine lv_aload_n hx hb d_G_findSlots_0 rfl (lv_at hl 0 rfl) ?_
  refine lv_iconst (v := 0) hx hb d_G_findSlots_1 (by decide) ?_
  refine zz_put (v := .int 0) (ws' := gw_C cI cZ cL a (ss_i u 3 0)) cx hw in_G ty_G tk_G nm_G 1 rfl rfl 5 (by decide) kw_5 rfl ⟨rfl, rfl⟩ (Nat.le_of_ble_eq_true rfl) (gw_C_i3 _ _ _ _ _ _) d_G_findSlots_2 (fun H locs hw => ?_)
  refine lv_aload_n hx hb d_G_findSlots_5 rfl (lv_at hl 0 rfl) ?_
  refine zz_get (v2 := .ref (a 10)) cx hw in_G 1 rfl rfl 9 (by decide) kw_29 rfl rfl d_G_findSlots_6 ?_
  refine lv_iconst (v := (-1)) hx hb d_G_findSlots_9 (by decide) ?_
  refine zz_callSv (As := [.ref (a 10), .int (-1)]) (rest := []) cx hw (ct_JA_fillI_GthemeOf l D cI cZ cL a h) (zz_gS kw_30 kw_33 kw_32 kw_31) hd_JA_fillI ⟨rfl, rfl⟩ ⟨Nat.le_of_ble_eq_true rfl, Nat.le_of_ble_eq_true rfl⟩ rfl hl.1 rfl (Nat.le_of_ble_eq_true rfl) d_G_findSlots_10 (fun s1 H locs h hw => ?_)
  refine lv_aload_n hx hb d_G_findSlots_13 rfl (lv_at hl 0 rfl) ?_
  refine zz_get (v2 := .ref (a 11)) cx hw in_G 1 rfl rfl 10 (by decide) kw_8 rfl rfl d_G_findSlots_14 ?_
  refine lv_iconst (v := (-1)) hx hb d_G_findSlots_17 (by decide) ?_
  refine zz_callSv (As := [.ref (a 11), .int (-1)]) (rest := []) cx hw (ct_JA_fillI_GslotThrough l D cI cZ cL a h) (zz_gS kw_30 kw_33 kw_32 kw_31) hd_JA_fillI ⟨rfl, rfl⟩ ⟨Nat.le_of_ble_eq_true rfl, Nat.le_of_ble_eq_true rfl⟩ rfl hl.1 rfl (Nat.le_of_ble_eq_true rfl) d_G_findSlots_18 (fun s2 H locs h hw => ?_)
  refine lv_iconst (v := 0) hx hb d_G_findSlots_21 (by decide) ?_
  refine lv_istore_n (lv' := [(1, .int 0), (0, .ref (a 1))]) hx hb d_G_findSlots_22 rfl hl (by decide) rfl (fun ls hl => ?_)
  obtain ⟨n, h⟩ := h
  exact wk_G_findSlots_23_f cx post  n 0 s2 _ _ _ hw (lv_sub hl [1, 0] rfl) h
set_option maxRecDepth 100000 in
set_option maxHeartbeats 4000000 in
theorem ct_G_paint (l : Launch) (D : va_G) (cI cZ cL : ClassId) (a : Nat → Nat) {a0 : Int32} {a1 : Int32} {u : zz_St} {post : zz_St → Prop} (h : wp_G_paint  a0 a1 u post) : zz_MV l y_G_paint (.code y_G_paint b_G_paint 3 none :: zz_tbl) (rm_G_paint) D zz_cl (zz_ty cI cZ cL) (gw_C cI cZ cL a) [.ref (a 1), .int a0, .int a1] u post := by
  unfold wp_G_paint at h
  refine zz_ofV (by decide) (Nat.le_of_ble_eq_true rfl) ?_
  intro p e s m below meth c A cx hw ls hl
  obtain ⟨hx, hb, hr, hml, hown, hts, hlk, hK, hA⟩ := id cx
  refine lv_aload_n hx hb d_G_paint_0 rfl (lv_at hl 0 rfl) ?_
  refine zz_get (v2 := .ref (a 5)) cx hw in_G 1 rfl rfl 3 (by decide) kw_10 rfl rfl d_G_paint_1 ?_
  refine lv_iload_n hx hb d_G_paint_4 rfl (lv_at hl 1 rfl) ?_
  refine lv_iload_n hx hb d_G_paint_5 rfl (lv_at hl 2 rfl) ?_
  obtain ⟨hi, h⟩ := h
  obtain ⟨hz, h⟩ := h
  refine zz_zast (ws' := gw_C cI cZ cL a (ss_a u 0 (upd (sg_a u 0) a0.toNatClampNeg a1))) cx hw 5 1 rfl rfl hi hz rfl (gw_C_a0 _ _ _ _ _ _) d_G_paint_6 (fun H locs hw => ?_)
  refine lv_aload_n hx hb d_G_paint_7 rfl (lv_at hl 0 rfl) ?_
  refine zz_get (v2 := .ref (a 6)) cx hw in_G 1 rfl rfl 4 (by decide) kw_38 rfl rfl d_G_paint_8 ?_
  refine lv_iconst (v := 0) hx hb d_G_paint_11 (by decide) ?_
  refine zz_callSv (As := [.ref (a 6), .int 0]) (rest := []) cx hw (ct_JA_fillI_GgivenAt l D cI cZ cL a h) (zz_gS kw_30 kw_33 kw_32 kw_31) hd_JA_fillI ⟨rfl, rfl⟩ ⟨Nat.le_of_ble_eq_true rfl, Nat.le_of_ble_eq_true rfl⟩ rfl hl.1 rfl (Nat.le_of_ble_eq_true rfl) d_G_paint_12 (fun s1 H locs h hw => ?_)
  refine lv_aload_n hx hb d_G_paint_15 rfl (lv_at hl 0 rfl) ?_
  refine zz_callVv (As := []) (rest := []) cx hw (ct_G_findSlots l D cI cZ cL a h) (zz_gV kw_39 kw_41 kw_42 kw_13 kw_40) hd_G_findSlots ⟨rfl, rfl⟩ ⟨Nat.le_of_ble_eq_true rfl, Nat.le_of_ble_eq_true rfl⟩ 1 rfl rfl rfl rfl hl.1 rfl (Nat.le_of_ble_eq_true rfl) d_G_paint_16 (fun s2 H locs h hw => ?_)
  exact zz_retv cx hw d_G_paint_19 h
set_option maxRecDepth 100000 in
set_option maxHeartbeats 4000000 in
theorem ct_G_imageIsOpen (l : Launch) (D : va_G) (cI cZ cL : ClassId) (a : Nat → Nat) {a0 : Int32} {a1 : Int32} {a2 : Int32} {u : zz_St} {post : Int32 → zz_St → Prop} (h : wp_G_imageIsOpen  a0 a1 a2 u post) : zz_MI l y_G_imageIsOpen (.code y_G_imageIsOpen b_G_imageIsOpen 4 (some .boolean) :: zz_tbl) (rm_G_imageIsOpen) D zz_cl (zz_ty cI cZ cL) (gw_C cI cZ cL a) [.ref (a 1), .int a0, .int a1, .int a2] u post := by
  unfold wp_G_imageIsOpen at h
  refine zz_ofI (by decide) (Nat.le_of_ble_eq_true rfl) ?_
  intro p e s m below meth c A cx hw ls hl
  obtain ⟨hx, hb, hr, hml, hown, hts, hlk, hK, hA⟩ := id cx
  refine lv_iload_n hx hb d_G_imageIsOpen_0 rfl (lv_at hl 1 rfl) ?_
  rcases zz_sw3_0 a0 with c_sw | c_sw | c_sw | c_sw
  · replace h := h.1 c_sw
    refine lv_tableIn (tgt := 28) hx hb d_G_imageIsOpen_1 (by rw [c_sw]; decide) (by rw [c_sw]; decide) (by rw [c_sw]; rfl) (by decide) ?_
    refine lv_aload_n hx hb d_G_imageIsOpen_28 rfl (lv_at hl 0 rfl) ?_
    refine lv_aload_n hx hb d_G_imageIsOpen_29 rfl (lv_at hl 0 rfl) ?_
    refine zz_get (v2 := .int (sg_i u 0)) cx hw in_G 1 rfl rfl 0 (by decide) kw_3 rfl rfl d_G_imageIsOpen_30 ?_
    refine lv_iconst (v := 1) hx hb d_G_imageIsOpen_33 (by decide) ?_
    refine lv_isub hx hb d_G_imageIsOpen_34 ?_
    refine lv_iload_n hx hb d_G_imageIsOpen_35 rfl (lv_at hl 2 rfl) ?_
    refine lv_isub hx hb d_G_imageIsOpen_36 ?_
    refine lv_aload_n hx hb d_G_imageIsOpen_37 rfl (lv_at hl 0 rfl) ?_
    refine zz_get (v2 := .int (sg_i u 1)) cx hw in_G 1 rfl rfl 1 (by decide) kw_4 rfl rfl d_G_imageIsOpen_38 ?_
    refine lv_iconst (v := 1) hx hb d_G_imageIsOpen_41 (by decide) ?_
    refine lv_isub hx hb d_G_imageIsOpen_42 ?_
    refine lv_iload_n hx hb d_G_imageIsOpen_43 rfl (lv_at hl 3 rfl) ?_
    refine lv_isub hx hb d_G_imageIsOpen_44 ?_
    refine zz_callVi (As := [.int (((sg_i u 0) - 1) - a1), .int (((sg_i u 1) - 1) - a2)]) (rest := []) cx hw (ct_G_isOpen l D cI cZ cL a h) (zz_gV kw_21 kw_23 kw_24 kw_13 kw_22) hd_G_isOpen ⟨rfl, rfl⟩ ⟨Nat.le_of_ble_eq_true rfl, Nat.le_of_ble_eq_true rfl⟩ 1 rfl rfl rfl rfl hl.1 rfl (Nat.le_of_ble_eq_true rfl) d_G_imageIsOpen_45 (fun r2 s1 H locs h hw => ?_)
    exact zz_retz cx hw d_G_imageIsOpen_48 h.1 h.2
  · replace h := h.2.1 c_sw
    refine lv_tableIn (tgt := 49) hx hb d_G_imageIsOpen_1 (by rw [c_sw]; decide) (by rw [c_sw]; decide) (by rw [c_sw]; rfl) (by decide) ?_
    refine lv_aload_n hx hb d_G_imageIsOpen_49 rfl (lv_at hl 0 rfl) ?_
    refine lv_aload_n hx hb d_G_imageIsOpen_50 rfl (lv_at hl 0 rfl) ?_
    refine zz_get (v2 := .int (sg_i u 0)) cx hw in_G 1 rfl rfl 0 (by decide) kw_3 rfl rfl d_G_imageIsOpen_51 ?_
    refine lv_iconst (v := 1) hx hb d_G_imageIsOpen_54 (by decide) ?_
    refine lv_isub hx hb d_G_imageIsOpen_55 ?_
    refine lv_iload_n hx hb d_G_imageIsOpen_56 rfl (lv_at hl 2 rfl) ?_
    refine lv_isub hx hb d_G_imageIsOpen_57 ?_
    refine lv_iload_n hx hb d_G_imageIsOpen_58 rfl (lv_at hl 3 rfl) ?_
    refine zz_callVi (As := [.int (((sg_i u 0) - 1) - a1), .int a2]) (rest := []) cx hw (ct_G_isOpen l D cI cZ cL a h) (zz_gV kw_21 kw_23 kw_24 kw_13 kw_22) hd_G_isOpen ⟨rfl, rfl⟩ ⟨Nat.le_of_ble_eq_true rfl, Nat.le_of_ble_eq_true rfl⟩ 1 rfl rfl rfl rfl hl.1 rfl (Nat.le_of_ble_eq_true rfl) d_G_imageIsOpen_59 (fun r4 s3 H locs h hw => ?_)
    exact zz_retz cx hw d_G_imageIsOpen_62 h.1 h.2
  · replace h := h.2.2.1 c_sw
    refine lv_tableIn (tgt := 63) hx hb d_G_imageIsOpen_1 (by rw [c_sw]; decide) (by rw [c_sw]; decide) (by rw [c_sw]; rfl) (by decide) ?_
    refine lv_aload_n hx hb d_G_imageIsOpen_63 rfl (lv_at hl 0 rfl) ?_
    refine lv_iload_n hx hb d_G_imageIsOpen_64 rfl (lv_at hl 2 rfl) ?_
    refine lv_aload_n hx hb d_G_imageIsOpen_65 rfl (lv_at hl 0 rfl) ?_
    refine zz_get (v2 := .int (sg_i u 1)) cx hw in_G 1 rfl rfl 1 (by decide) kw_4 rfl rfl d_G_imageIsOpen_66 ?_
    refine lv_iconst (v := 1) hx hb d_G_imageIsOpen_69 (by decide) ?_
    refine lv_isub hx hb d_G_imageIsOpen_70 ?_
    refine lv_iload_n hx hb d_G_imageIsOpen_71 rfl (lv_at hl 3 rfl) ?_
    refine lv_isub hx hb d_G_imageIsOpen_72 ?_
    refine zz_callVi (As := [.int a1, .int (((sg_i u 1) - 1) - a2)]) (rest := []) cx hw (ct_G_isOpen l D cI cZ cL a h) (zz_gV kw_21 kw_23 kw_24 kw_13 kw_22) hd_G_isOpen ⟨rfl, rfl⟩ ⟨Nat.le_of_ble_eq_true rfl, Nat.le_of_ble_eq_true rfl⟩ 1 rfl rfl rfl rfl hl.1 rfl (Nat.le_of_ble_eq_true rfl) d_G_imageIsOpen_73 (fun r6 s5 H locs h hw => ?_)
    exact zz_retz cx hw d_G_imageIsOpen_76 h.1 h.2
  · replace h := h.2.2.2 c_sw
    refine lv_tableOut (tgt := 77) hx hb d_G_imageIsOpen_1 c_sw (by decide) ?_
    refine lv_aload_n hx hb d_G_imageIsOpen_77 rfl (lv_at hl 0 rfl) ?_
    refine lv_iload_n hx hb d_G_imageIsOpen_78 rfl (lv_at hl 3 rfl) ?_
    refine lv_iload_n hx hb d_G_imageIsOpen_79 rfl (lv_at hl 2 rfl) ?_
    refine zz_callVi (As := [.int a2, .int a1]) (rest := []) cx hw (ct_G_isOpen l D cI cZ cL a h) (zz_gV kw_21 kw_23 kw_24 kw_13 kw_22) hd_G_isOpen ⟨rfl, rfl⟩ ⟨Nat.le_of_ble_eq_true rfl, Nat.le_of_ble_eq_true rfl⟩ 1 rfl rfl rfl rfl hl.1 rfl (Nat.le_of_ble_eq_true rfl) d_G_imageIsOpen_80 (fun r8 s7 H locs h hw => ?_)
    exact zz_retz cx hw d_G_imageIsOpen_83 h.1 h.2
set_option maxRecDepth 100000 in
set_option maxHeartbeats 4000000 in
theorem wk_G_looksTheSame_12 {p : Program} {l : Launch} {e : Env} {s : State} {m : MethodId} {args : Array Value} {below : List Frame} {meth : Method} {c : Code} {A : Nat → Prop} {D : va_G} {cI cZ cL : ClassId} {a : Nat → Nat} (cx : zz_Cx p s m args meth c "GridFills$Grid" b_G_looksTheSame 4 (some .boolean) D zz_cl (zz_ty cI cZ cL) A) (post : Int32 → zz_St → Prop) {kn2 : Int32 → Int32 → zz_St → Prop} {kn12 : Int32 → Int32 → Int32 → zz_St → Prop} (hkn2 : ∀ (x1 : Int32) (x2 : Int32) (u : zz_St) (H : Heap) (locs : List Loc) (ls : Array Slot), zz_Wd D zz_cl A s.heap H locs (gw_C cI cZ cL a u) → lv_has ls 4 [(0, .ref (a 1)), (1, .int x1), (2, .int x2)] → kn2 x1 x2 u → W p l e (rm_G_looksTheSame) s m args below meth c H locs 0 0 (MQ below (va_Qi post (zz_B D zz_cl (zz_ty cI cZ cL) (gw_C cI cZ cL a) A) A) args s 0 0 A) (F0 m 2 ls [])) (hkn12 : ∀ (x1 : Int32) (x2 : Int32) (x3 : Int32) (u : zz_St) (H : Heap) (locs : List Loc) (ls : Array Slot), zz_Wd D zz_cl A s.heap H locs (gw_C cI cZ cL a u) → lv_has ls 4 [(0, .ref (a 1)), (1, .int x1), (2, .int x2), (3, .int x3)] → kn12 x1 x2 x3 u → W p l e (rm_G_looksTheSame) s m args below meth c H locs 0 0 (MQ below (va_Qi post (zz_B D zz_cl (zz_ty cI cZ cL) (gw_C cI cZ cL a) A) A) args s 0 0 A) (F0 m 12 ls [])) : ∀ (x1 : Int32) (x2 : Int32) (x3 : Int32) (u : zz_St) (H : Heap) (locs : List Loc) (ls : Array Slot), zz_Wd D zz_cl A s.heap H locs (gw_C cI cZ cL a u) → lv_has ls 4 [(0, .ref (a 1)), (1, .int x1), (2, .int x2), (3, .int x3)] → wp_G_looksTheSame_12 post kn2 kn12 x1 x2 x3 u → W p l e (rm_G_looksTheSame) s m args below meth c H locs 0 0 (MQ below (va_Qi post (zz_B D zz_cl (zz_ty cI cZ cL) (gw_C cI cZ cL a) A) A) args s 0 0 A) (F0 m 12 ls []) := by
  intro x1 x2 x3 u H locs ls hw hl h
  unfold wp_G_looksTheSame_12 at h
  obtain ⟨hx, hb, hr, hml, hown, hts, hlk, hK, hA⟩ := id cx
  refine lv_iload_n hx hb d_G_looksTheSame_12 rfl (lv_at hl 3 rfl) ?_
  refine lv_aload_n hx hb d_G_looksTheSame_13 rfl (lv_at hl 0 rfl) ?_
  refine zz_get (v2 := .int (sg_i u 0)) cx hw in_G 1 rfl rfl 0 (by decide) kw_3 rfl rfl d_G_looksTheSame_14 ?_
  refine lv_icmp_ge (tgt := 44) hx hb d_G_looksTheSame_17 (by decide) (fun c2 => ?_) (fun c2 => ?_)
  · replace h := h.1 c2
    refine lv_iinc (v := x2 + 1) (lv' := [(2, .int (x2 + 1)), (0, .ref (a 1)), (1, .int x1), (3, .int x3)]) hx hb d_G_looksTheSame_44 hl (k := 2) rfl rfl (by decide) rfl (fun ls hl => ?_)
    refine lv_goto (tgt := 2) hx hb d_G_looksTheSame_47 (by decide) ?_
    exact hkn2 x1 (x2 + 1) u _ _ _ hw (lv_sub hl [1, 2, 0] rfl) h
  · replace h := h.2 c2
    refine lv_aload_n hx hb d_G_looksTheSame_20 rfl (lv_at hl 0 rfl) ?_
    refine lv_iload_n hx hb d_G_looksTheSame_21 rfl (lv_at hl 3 rfl) ?_
    refine lv_iload_n hx hb d_G_looksTheSame_22 rfl (lv_at hl 2 rfl) ?_
    refine zz_callVi (As := [.int x3, .int x2]) (rest := []) cx hw (ct_G_isOpen l D cI cZ cL a h) (zz_gV kw_21 kw_23 kw_24 kw_13 kw_22) hd_G_isOpen ⟨rfl, rfl⟩ ⟨Nat.le_of_ble_eq_true rfl, Nat.le_of_ble_eq_true rfl⟩ 1 rfl rfl rfl rfl hl.1 rfl (Nat.le_of_ble_eq_true rfl) d_G_looksTheSame_23 (fun r4 s3 H locs h hw => ?_)
    refine lv_aload_n hx hb d_G_looksTheSame_26 rfl (lv_at hl 0 rfl) ?_
    refine lv_iload_n hx hb d_G_looksTheSame_27 rfl (lv_at hl 1 rfl) ?_
    refine lv_iload_n hx hb d_G_looksTheSame_28 rfl (lv_at hl 3 rfl) ?_
    refine lv_iload_n hx hb d_G_looksTheSame_29 rfl (lv_at hl 2 rfl) ?_
    refine zz_callVi (As := [.int x1, .int x3, .int x2]) (rest := [.int r4]) cx hw (ct_G_imageIsOpen l D cI cZ cL a h) (zz_gV kw_43 kw_45 kw_46 kw_13 kw_44) hd_G_imageIsOpen ⟨rfl, rfl⟩ ⟨Nat.le_of_ble_eq_true rfl, Nat.le_of_ble_eq_true rfl⟩ 1 rfl rfl rfl rfl hl.1 rfl (Nat.le_of_ble_eq_true rfl) d_G_looksTheSame_30 (fun r6 s5 H locs h hw => ?_)
    refine lv_icmp_eq (tgt := 38) hx hb d_G_looksTheSame_33 (by decide) (fun c7 => ?_) (fun c7 => ?_)
    · replace h := h.1 c7
      refine lv_iinc (v := x3 + 1) (lv' := [(3, .int (x3 + 1)), (0, .ref (a 1)), (1, .int x1), (2, .int x2)]) hx hb d_G_looksTheSame_38 hl (k := 3) rfl rfl (by decide) rfl (fun ls hl => ?_)
      refine lv_goto (tgt := 12) hx hb d_G_looksTheSame_41 (by decide) ?_
      exact hkn12 x1 x2 (x3 + 1) s5 _ _ _ hw (lv_sub hl [1, 2, 3, 0] rfl) h
    · replace h := h.2 c7
      refine lv_iconst (v := 0) hx hb d_G_looksTheSame_36 (by decide) ?_
      exact zz_retz cx hw d_G_looksTheSame_37 (by decide) h
set_option maxRecDepth 100000 in
set_option maxHeartbeats 4000000 in
theorem wk_G_looksTheSame_12_f {p : Program} {l : Launch} {e : Env} {s : State} {m : MethodId} {args : Array Value} {below : List Frame} {meth : Method} {c : Code} {A : Nat → Prop} {D : va_G} {cI cZ cL : ClassId} {a : Nat → Nat} (cx : zz_Cx p s m args meth c "GridFills$Grid" b_G_looksTheSame 4 (some .boolean) D zz_cl (zz_ty cI cZ cL) A) (post : Int32 → zz_St → Prop) {kn2 : Int32 → Int32 → zz_St → Prop} (hkn2 : ∀ (x1 : Int32) (x2 : Int32) (u : zz_St) (H : Heap) (locs : List Loc) (ls : Array Slot), zz_Wd D zz_cl A s.heap H locs (gw_C cI cZ cL a u) → lv_has ls 4 [(0, .ref (a 1)), (1, .int x1), (2, .int x2)] → kn2 x1 x2 u → W p l e (rm_G_looksTheSame) s m args below meth c H locs 0 0 (MQ below (va_Qi post (zz_B D zz_cl (zz_ty cI cZ cL) (gw_C cI cZ cL a) A) A) args s 0 0 A) (F0 m 2 ls [])) : ∀ n : Nat, ∀ (x1 : Int32) (x2 : Int32) (x3 : Int32) (u : zz_St) (H : Heap) (locs : List Loc) (ls : Array Slot), zz_Wd D zz_cl A s.heap H locs (gw_C cI cZ cL a u) → lv_has ls 4 [(0, .ref (a 1)), (1, .int x1), (2, .int x2), (3, .int x3)] → wp_G_looksTheSame_12_f post kn2 n x1 x2 x3 u → W p l e (rm_G_looksTheSame) s m args below meth c H locs 0 0 (MQ below (va_Qi post (zz_B D zz_cl (zz_ty cI cZ cL) (gw_C cI cZ cL a) A) A) args s 0 0 A) (F0 m 12 ls []) := by
  intro n
  induction n with
  | zero => exact fun _ _ _ _ _ _ _ _ _ h => False.elim h
  | succ n ih => exact wk_G_looksTheSame_12 cx post hkn2 ih
set_option maxRecDepth 100000 in
set_option maxHeartbeats 4000000 in
theorem wk_G_looksTheSame_2 {p : Program} {l : Launch} {e : Env} {s : State} {m : MethodId} {args : Array Value} {below : List Frame} {meth : Method} {c : Code} {A : Nat → Prop} {D : va_G} {cI cZ cL : ClassId} {a : Nat → Nat} (cx : zz_Cx p s m args meth c "GridFills$Grid" b_G_looksTheSame 4 (some .boolean) D zz_cl (zz_ty cI cZ cL) A) (post : Int32 → zz_St → Prop) {kn2 : Int32 → Int32 → zz_St → Prop} (hkn2 : ∀ (x1 : Int32) (x2 : Int32) (u : zz_St) (H : Heap) (locs : List Loc) (ls : Array Slot), zz_Wd D zz_cl A s.heap H locs (gw_C cI cZ cL a u) → lv_has ls 4 [(0, .ref (a 1)), (1, .int x1), (2, .int x2)] → kn2 x1 x2 u → W p l e (rm_G_looksTheSame) s m args below meth c H locs 0 0 (MQ below (va_Qi post (zz_B D zz_cl (zz_ty cI cZ cL) (gw_C cI cZ cL a) A) A) args s 0 0 A) (F0 m 2 ls [])) : ∀ (x1 : Int32) (x2 : Int32) (u : zz_St) (H : Heap) (locs : List Loc) (ls : Array Slot), zz_Wd D zz_cl A s.heap H locs (gw_C cI cZ cL a u) → lv_has ls 4 [(0, .ref (a 1)), (1, .int x1), (2, .int x2)] → wp_G_looksTheSame_2 post kn2 x1 x2 u → W p l e (rm_G_looksTheSame) s m args below meth c H locs 0 0 (MQ below (va_Qi post (zz_B D zz_cl (zz_ty cI cZ cL) (gw_C cI cZ cL a) A) A) args s 0 0 A) (F0 m 2 ls []) := by
  intro x1 x2 u H locs ls hw hl h
  unfold wp_G_looksTheSame_2 at h
  obtain ⟨hx, hb, hr, hml, hown, hts, hlk, hK, hA⟩ := id cx
  refine lv_iload_n hx hb d_G_looksTheSame_2 rfl (lv_at hl 2 rfl) ?_
  refine lv_aload_n hx hb d_G_looksTheSame_3 rfl (lv_at hl 0 rfl) ?_
  refine zz_get (v2 := .int (sg_i u 1)) cx hw in_G 1 rfl rfl 1 (by decide) kw_4 rfl rfl d_G_looksTheSame_4 ?_
  refine lv_icmp_ge (tgt := 50) hx hb d_G_looksTheSame_7 (by decide) (fun c1 => ?_) (fun c1 => ?_)
  · replace h := h.1 c1
    refine lv_iconst (v := 1) hx hb d_G_looksTheSame_50 (by decide) ?_
    exact zz_retz cx hw d_G_looksTheSame_51 (by decide) h
  · replace h := h.2 c1
    refine lv_iconst (v := 0) hx hb d_G_looksTheSame_10 (by decide) ?_
    refine lv_istore_n (lv' := [(3, .int 0), (0, .ref (a 1)), (1, .int x1), (2, .int x2)]) hx hb d_G_looksTheSame_11 rfl hl (by decide) rfl (fun ls hl => ?_)
    obtain ⟨n, h⟩ := h
    exact wk_G_looksTheSame_12_f cx post hkn2 n x1 x2 0 u _ _ _ hw (lv_sub hl [1, 2, 3, 0] rfl) h
set_option maxRecDepth 100000 in
set_option maxHeartbeats 4000000 in
theorem wk_G_looksTheSame_2_f {p : Program} {l : Launch} {e : Env} {s : State} {m : MethodId} {args : Array Value} {below : List Frame} {meth : Method} {c : Code} {A : Nat → Prop} {D : va_G} {cI cZ cL : ClassId} {a : Nat → Nat} (cx : zz_Cx p s m args meth c "GridFills$Grid" b_G_looksTheSame 4 (some .boolean) D zz_cl (zz_ty cI cZ cL) A) (post : Int32 → zz_St → Prop) : ∀ n : Nat, ∀ (x1 : Int32) (x2 : Int32) (u : zz_St) (H : Heap) (locs : List Loc) (ls : Array Slot), zz_Wd D zz_cl A s.heap H locs (gw_C cI cZ cL a u) → lv_has ls 4 [(0, .ref (a 1)), (1, .int x1), (2, .int x2)] → wp_G_looksTheSame_2_f post n x1 x2 u → W p l e (rm_G_looksTheSame) s m args below meth c H locs 0 0 (MQ below (va_Qi post (zz_B D zz_cl (zz_ty cI cZ cL) (gw_C cI cZ cL a) A) A) args s 0 0 A) (F0 m 2 ls []) := by
  intro n
  induction n with
  | zero => exact fun _ _ _ _ _ _ _ _ h => False.elim h
  | succ n ih => exact wk_G_looksTheSame_2 cx post ih
set_option maxRecDepth 100000 in
set_option maxHeartbeats 4000000 in
theorem ct_G_looksTheSame (l : Launch) (D : va_G) (cI cZ cL : ClassId) (a : Nat → Nat) {a0 : Int32} {u : zz_St} {post : Int32 → zz_St → Prop} (h : wp_G_looksTheSame  a0 u post) : zz_MI l y_G_looksTheSame (.code y_G_looksTheSame b_G_looksTheSame 4 (some .boolean) :: zz_tbl) (rm_G_looksTheSame) D zz_cl (zz_ty cI cZ cL) (gw_C cI cZ cL a) [.ref (a 1), .int a0] u post := by
  unfold wp_G_looksTheSame at h
  refine zz_ofI (by decide) (Nat.le_of_ble_eq_true rfl) ?_
  intro p e s m below meth c A cx hw ls hl
  obtain ⟨hx, hb, hr, hml, hown, hts, hlk, hK, hA⟩ := id cx
  refine lv_iconst (v := 0) hx hb d_G_looksTheSame_0 (by decide) ?_
  refine lv_istore_n (lv' := [(2, .int 0), (0, .ref (a 1)), (1, .int a0)]) hx hb d_G_looksTheSame_1 rfl hl (by decide) rfl (fun ls hl => ?_)
  obtain ⟨n, h⟩ := h
  exact wk_G_looksTheSame_2_f cx post  n a0 0 u _ _ _ hw (lv_sub hl [1, 2, 0] rfl) h
set_option maxRecDepth 100000 in
set_option maxHeartbeats 4000000 in
theorem wk_G_join_90 {p : Program} {l : Launch} {e : Env} {s : State} {m : MethodId} {args : Array Value} {below : List Frame} {meth : Method} {c : Code} {A : Nat → Prop} {D : va_G} {cI cZ cL : ClassId} {a : Nat → Nat} (cx : zz_Cx p s m args meth c "GridFills$Grid" b_G_join 8 (some .boolean) D zz_cl (zz_ty cI cZ cL) A) (post : Int32 → zz_St → Prop) {kn60 : Int32 → Int32 → Int32 → zz_St → Prop} (hkn60 : ∀ (x5 : Int32) (x6 : Int32) (x7 : Int32) (u : zz_St) (H : Heap) (locs : List Loc) (ls : Array Slot), zz_Wd D zz_cl A s.heap H locs (gw_C cI cZ cL a u) → lv_has ls 8 [(0, .ref (a 1)), (5, .int x5), (6, .int x6), (7, .int x7)] → kn60 x5 x6 x7 u → W p l e (rm_G_join) s m args below meth c H locs 0 0 (MQ below (va_Qi post (zz_B D zz_cl (zz_ty cI cZ cL) (gw_C cI cZ cL a) A) A) args s 0 0 A) (F0 m 60 ls [])) : ∀ (x5 : Int32) (x6 : Int32) (x7 : Int32) (u : zz_St) (H : Heap) (locs : List Loc) (ls : Array Slot), zz_Wd D zz_cl A s.heap H locs (gw_C cI cZ cL a u) → lv_has ls 8 [(0, .ref (a 1)), (5, .int x5), (6, .int x6), (7, .int x7)] → wp_G_join_90 post kn60 x5 x6 x7 u → W p l e (rm_G_join) s m args below meth c H locs 0 0 (MQ below (va_Qi post (zz_B D zz_cl (zz_ty cI cZ cL) (gw_C cI cZ cL a) A) A) args s 0 0 A) (F0 m 90 ls []) := by
  intro x5 x6 x7 u H locs ls hw hl h
  unfold wp_G_join_90 at h
  obtain ⟨hx, hb, hr, hml, hown, hts, hlk, hK, hA⟩ := id cx
  refine lv_iinc (v := x7 + 1) (lv' := [(7, .int (x7 + 1)), (0, .ref (a 1)), (5, .int x5), (6, .int x6)]) hx hb d_G_join_90 hl (k := 3) rfl rfl (by decide) rfl (fun ls hl => ?_)
  refine lv_goto (tgt := 60) hx hb d_G_join_93 (by decide) ?_
  exact hkn60 x5 x6 (x7 + 1) u _ _ _ hw (lv_sub hl [1, 2, 3, 0] rfl) h
set_option maxRecDepth 100000 in
set_option maxHeartbeats 4000000 in
theorem wk_G_join_60 {p : Program} {l : Launch} {e : Env} {s : State} {m : MethodId} {args : Array Value} {below : List Frame} {meth : Method} {c : Code} {A : Nat → Prop} {D : va_G} {cI cZ cL : ClassId} {a : Nat → Nat} (cx : zz_Cx p s m args meth c "GridFills$Grid" b_G_join 8 (some .boolean) D zz_cl (zz_ty cI cZ cL) A) (post : Int32 → zz_St → Prop) {kn60 : Int32 → Int32 → Int32 → zz_St → Prop} (hkn60 : ∀ (x5 : Int32) (x6 : Int32) (x7 : Int32) (u : zz_St) (H : Heap) (locs : List Loc) (ls : Array Slot), zz_Wd D zz_cl A s.heap H locs (gw_C cI cZ cL a u) → lv_has ls 8 [(0, .ref (a 1)), (5, .int x5), (6, .int x6), (7, .int x7)] → kn60 x5 x6 x7 u → W p l e (rm_G_join) s m args below meth c H locs 0 0 (MQ below (va_Qi post (zz_B D zz_cl (zz_ty cI cZ cL) (gw_C cI cZ cL a) A) A) args s 0 0 A) (F0 m 60 ls [])) : ∀ (x5 : Int32) (x6 : Int32) (x7 : Int32) (u : zz_St) (H : Heap) (locs : List Loc) (ls : Array Slot), zz_Wd D zz_cl A s.heap H locs (gw_C cI cZ cL a u) → lv_has ls 8 [(0, .ref (a 1)), (5, .int x5), (6, .int x6), (7, .int x7)] → wp_G_join_60 post kn60 x5 x6 x7 u → W p l e (rm_G_join) s m args below meth c H locs 0 0 (MQ below (va_Qi post (zz_B D zz_cl (zz_ty cI cZ cL) (gw_C cI cZ cL a) A) A) args s 0 0 A) (F0 m 60 ls []) := by
  intro x5 x6 x7 u H locs ls hw hl h
  unfold wp_G_join_60 at h
  obtain ⟨hx, hb, hr, hml, hown, hts, hlk, hK, hA⟩ := id cx
  refine lv_iload hx hb d_G_join_60 (lv_at hl 3 rfl) ?_
  refine lv_aload_n hx hb d_G_join_62 rfl (lv_at hl 0 rfl) ?_
  refine zz_get (v2 := .int (sg_i u 2)) cx hw in_G 1 rfl rfl 2 (by decide) kw_48 rfl rfl d_G_join_63 ?_
  refine lv_icmp_ge (tgt := 96) hx hb d_G_join_66 (by decide) (fun c14 => ?_) (fun c14 => ?_)
  · replace h := h.1 c14
    refine lv_iconst (v := 1) hx hb d_G_join_96 (by decide) ?_
    exact zz_retz cx hw d_G_join_97 (by decide) h
  · replace h := h.2 c14
    refine lv_aload_n hx hb d_G_join_69 rfl (lv_at hl 0 rfl) ?_
    refine zz_get (v2 := .ref (a 13)) cx hw in_G 1 rfl rfl 12 (by decide) kw_47 rfl rfl d_G_join_70 ?_
    refine lv_iload hx hb d_G_join_73 (lv_at hl 3 rfl) ?_
    obtain ⟨hi, h⟩ := h
    refine zz_iald (f2 := sg_a u 8) cx hw 13 0 rfl rfl hi rfl d_G_join_75 ?_
    refine lv_iload hx hb d_G_join_76 (lv_at hl 2 rfl) ?_
    refine lv_icmp_ne (tgt := 90) hx hb d_G_join_78 (by decide) (fun c15 => ?_) (fun c15 => ?_)
    · replace h := h.2 c15
      exact wk_G_join_90 cx post hkn60 x5 x6 x7 u _ _ _ hw (lv_sub hl [0, 1, 2, 3] rfl) h
    · replace h := h.1 c15
      refine lv_aload_n hx hb d_G_join_81 rfl (lv_at hl 0 rfl) ?_
      refine zz_get (v2 := .ref (a 13)) cx hw in_G 1 rfl rfl 12 (by decide) kw_47 rfl rfl d_G_join_82 ?_
      refine lv_iload hx hb d_G_join_85 (lv_at hl 3 rfl) ?_
      refine lv_iload hx hb d_G_join_87 (lv_at hl 1 rfl) ?_
      obtain ⟨hi, h⟩ := h
      refine zz_iast (ws' := gw_C cI cZ cL a (ss_a u 8 (upd (sg_a u 8) x7.toNatClampNeg x5))) cx hw 13 0 rfl rfl hi rfl (gw_C_a8 _ _ _ _ _ _) d_G_join_89 (fun H locs hw => ?_)
      exact wk_G_join_90 cx post hkn60 x5 x6 x7 (ss_a u 8 (upd (sg_a u 8) x7.toNatClampNeg x5)) _ _ _ hw (lv_sub hl [0, 1, 2, 3] rfl) h
set_option maxRecDepth 100000 in
set_option maxHeartbeats 4000000 in
theorem wk_G_join_60_f {p : Program} {l : Launch} {e : Env} {s : State} {m : MethodId} {args : Array Value} {below : List Frame} {meth : Method} {c : Code} {A : Nat → Prop} {D : va_G} {cI cZ cL : ClassId} {a : Nat → Nat} (cx : zz_Cx p s m args meth c "GridFills$Grid" b_G_join 8 (some .boolean) D zz_cl (zz_ty cI cZ cL) A) (post : Int32 → zz_St → Prop) : ∀ n : Nat, ∀ (x5 : Int32) (x6 : Int32) (x7 : Int32) (u : zz_St) (H : Heap) (locs : List Loc) (ls : Array Slot), zz_Wd D zz_cl A s.heap H locs (gw_C cI cZ cL a u) → lv_has ls 8 [(0, .ref (a 1)), (5, .int x5), (6, .int x6), (7, .int x7)] → wp_G_join_60_f post n x5 x6 x7 u → W p l e (rm_G_join) s m args below meth c H locs 0 0 (MQ below (va_Qi post (zz_B D zz_cl (zz_ty cI cZ cL) (gw_C cI cZ cL a) A) A) args s 0 0 A) (F0 m 60 ls []) := by
  intro n
  induction n with
  | zero => exact fun _ _ _ _ _ _ _ _ _ h => False.elim h
  | succ n ih => exact wk_G_join_60 cx post ih
set_option maxRecDepth 100000 in
set_option maxHeartbeats 4000000 in
theorem ct_G_join (l : Launch) (D : va_G) (cI cZ cL : ClassId) (a : Nat → Nat) {a0 : Int32} {a1 : Int32} {a2 : Int32} {a3 : Int32} {u : zz_St} {post : Int32 → zz_St → Prop} (h : wp_G_join  a0 a1 a2 a3 u post) : zz_MI l y_G_join (.code y_G_join b_G_join 8 (some .boolean) :: zz_tbl) (rm_G_join) D zz_cl (zz_ty cI cZ cL) (gw_C cI cZ cL a) [.ref (a 1), .int a0, .int a1, .int a2, .int a3] u post := by
  unfold wp_G_join at h
  refine zz_ofI (by decide) (Nat.le_of_ble_eq_true rfl) ?_
  intro p e s m below meth c A cx hw ls hl
  obtain ⟨hx, hb, hr, hml, hown, hts, hlk, hK, hA⟩ := id cx
  refine lv_aload_n hx hb d_G_join_0 rfl (lv_at hl 0 rfl) ?_
  refine lv_iload_n hx hb d_G_join_1 rfl (lv_at hl 1 rfl) ?_
  refine lv_iload_n hx hb d_G_join_2 rfl (lv_at hl 2 rfl) ?_
  refine zz_callVi (As := [.int a0, .int a1]) (rest := []) cx hw (ct_G_isOpen l D cI cZ cL a h) (zz_gV kw_21 kw_23 kw_24 kw_13 kw_22) hd_G_isOpen ⟨rfl, rfl⟩ ⟨Nat.le_of_ble_eq_true rfl, Nat.le_of_ble_eq_true rfl⟩ 1 rfl rfl rfl rfl hl.1 rfl (Nat.le_of_ble_eq_true rfl) d_G_join_3 (fun r2 s1 H locs h hw => ?_)
  refine lv_if_eq (tgt := 19) hx hb d_G_join_6 (by decide) (fun c3 => ?_) (fun c3 => ?_)
  · replace h := h.1 c3
    refine lv_iconst (v := 0) hx hb d_G_join_19 (by decide) ?_
    exact zz_retz cx hw d_G_join_20 (by decide) h
  · replace h := h.2 c3
    refine lv_aload_n hx hb d_G_join_9 rfl (lv_at hl 0 rfl) ?_
    refine lv_iload_n hx hb d_G_join_10 rfl (lv_at hl 3 rfl) ?_
    refine lv_iload hx hb d_G_join_11 (lv_at hl 4 rfl) ?_
    refine zz_callVi (As := [.int a2, .int a3]) (rest := []) cx hw (ct_G_isOpen l D cI cZ cL a h) (zz_gV kw_21 kw_23 kw_24 kw_13 kw_22) hd_G_isOpen ⟨rfl, rfl⟩ ⟨Nat.le_of_ble_eq_true rfl, Nat.le_of_ble_eq_true rfl⟩ 1 rfl rfl rfl rfl hl.1 rfl (Nat.le_of_ble_eq_true rfl) d_G_join_13 (fun r5 s4 H locs h hw => ?_)
    refine lv_if_ne (tgt := 21) hx hb d_G_join_16 (by decide) (fun c6 => ?_) (fun c6 => ?_)
    · replace h := h.2 c6
      refine lv_aload_n hx hb d_G_join_21 rfl (lv_at hl 0 rfl) ?_
      refine zz_get (v2 := .ref (a 13)) cx hw in_G 1 rfl rfl 12 (by decide) kw_47 rfl rfl d_G_join_22 ?_
      refine lv_aload_n hx hb d_G_join_25 rfl (lv_at hl 0 rfl) ?_
      refine lv_iload_n hx hb d_G_join_26 rfl (lv_at hl 1 rfl) ?_
      refine lv_iload_n hx hb d_G_join_27 rfl (lv_at hl 2 rfl) ?_
      refine zz_callVi (As := [.int a0, .int a1]) (rest := [.ref (a 13)]) cx hw (ct_G_cellAt l D cI cZ cL a h) (zz_gV kw_11 kw_14 kw_15 kw_13 kw_12) hd_G_cellAt ⟨rfl, rfl⟩ ⟨Nat.le_of_ble_eq_true rfl, Nat.le_of_ble_eq_true rfl⟩ 1 rfl rfl rfl rfl hl.1 rfl (Nat.le_of_ble_eq_true rfl) d_G_join_28 (fun r8 s7 H locs h hw => ?_)
      obtain ⟨hi, h⟩ := h
      refine zz_iald (f2 := sg_a s7 8) cx hw 13 0 rfl rfl hi rfl d_G_join_31 ?_
      refine lv_topi (fun v9 ev9 => ?_)
      replace h := h v9 ev9
      refine lv_istore (lv' := [(5, .int v9), (0, .ref (a 1)), (1, .int a0), (2, .int a1), (3, .int a2), (4, .int a3)]) hx hb d_G_join_32 hl (by decide) rfl (fun ls hl => ?_)
      refine lv_aload_n hx hb d_G_join_34 rfl (lv_at hl 1 rfl) ?_
      refine zz_get (v2 := .ref (a 13)) cx hw in_G 1 rfl rfl 12 (by decide) kw_47 rfl rfl d_G_join_35 ?_
      refine lv_aload_n hx hb d_G_join_38 rfl (lv_at hl 1 rfl) ?_
      refine lv_iload_n hx hb d_G_join_39 rfl (lv_at hl 4 rfl) ?_
      refine lv_iload hx hb d_G_join_40 (lv_at hl 5 rfl) ?_
      refine zz_callVi (As := [.int a2, .int a3]) (rest := [.ref (a 13)]) cx hw (ct_G_cellAt l D cI cZ cL a h) (zz_gV kw_11 kw_14 kw_15 kw_13 kw_12) hd_G_cellAt ⟨rfl, rfl⟩ ⟨Nat.le_of_ble_eq_true rfl, Nat.le_of_ble_eq_true rfl⟩ 1 rfl rfl rfl rfl hl.1 rfl (Nat.le_of_ble_eq_true rfl) d_G_join_42 (fun r11 s10 H locs h hw => ?_)
      obtain ⟨hi, h⟩ := h
      refine zz_iald (f2 := sg_a s10 8) cx hw 13 0 rfl rfl hi rfl d_G_join_45 ?_
      refine lv_topi (fun v12 ev12 => ?_)
      replace h := h v12 ev12
      refine lv_istore (lv' := [(6, .int v12), (5, .int v9), (0, .ref (a 1)), (1, .int a0), (2, .int a1), (3, .int a2), (4, .int a3)]) hx hb d_G_join_46 hl (by decide) rfl (fun ls hl => ?_)
      refine lv_iload hx hb d_G_join_48 (lv_at hl 1 rfl) ?_
      refine lv_iload hx hb d_G_join_50 (lv_at hl 0 rfl) ?_
      refine lv_icmp_ne (tgt := 57) hx hb d_G_join_52 (by decide) (fun c13 => ?_) (fun c13 => ?_)
      · replace h := h.2 c13
        refine lv_iconst (v := 0) hx hb d_G_join_57 (by decide) ?_
        refine lv_istore (lv' := [(7, .int 0), (6, .int v12), (5, .int v9), (0, .ref (a 1)), (1, .int a0), (2, .int a1), (3, .int a2), (4, .int a3)]) hx hb d_G_join_58 hl (by decide) rfl (fun ls hl => ?_)
        obtain ⟨n, h⟩ := h
        exact wk_G_join_60_f cx post  n v9 v12 0 s10 _ _ _ hw (lv_sub hl [3, 2, 1, 0] rfl) h
      · replace h := h.1 c13
        refine lv_iconst (v := 0) hx hb d_G_join_55 (by decide) ?_
        exact zz_retz cx hw d_G_join_56 (by decide) h
    · replace h := h.1 c6
      refine lv_iconst (v := 0) hx hb d_G_join_19 (by decide) ?_
      exact zz_retz cx hw d_G_join_20 (by decide) h
set_option maxRecDepth 100000 in
set_option maxHeartbeats 4000000 in
theorem wk_G_countParts_34 {p : Program} {l : Launch} {e : Env} {s : State} {m : MethodId} {args : Array Value} {below : List Frame} {meth : Method} {c : Code} {A : Nat → Prop} {D : va_G} {cI cZ cL : ClassId} {a : Nat → Nat} (cx : zz_Cx p s m args meth c "GridFills$Grid" b_G_countParts 4 (some .int) D zz_cl (zz_ty cI cZ cL) A) (post : Int32 → zz_St → Prop) {kn4 : Int32 → Int32 → zz_St → Prop} (hkn4 : ∀ (x1 : Int32) (x2 : Int32) (u : zz_St) (H : Heap) (locs : List Loc) (ls : Array Slot), zz_Wd D zz_cl A s.heap H locs (gw_C cI cZ cL a u) → lv_has ls 4 [(0, .ref (a 1)), (1, .int x1), (2, .int x2)] → kn4 x1 x2 u → W p l e (rm_G_countParts) s m args below meth c H locs 0 0 (MQ below (va_Qi post (zz_B D zz_cl (zz_ty cI cZ cL) (gw_C cI cZ cL a) A) A) args s 0 0 A) (F0 m 4 ls [])) : ∀ (x2 : Int32) (y0 : Int32) (y1 : Int32) (u : zz_St) (H : Heap) (locs : List Loc) (ls : Array Slot), zz_Wd D zz_cl A s.heap H locs (gw_C cI cZ cL a u) → lv_has ls 4 [(0, .ref (a 1)), (2, .int x2)] → wp_G_countParts_34 post kn4 x2 y0 y1 u → W p l e (rm_G_countParts) s m args below meth c H locs 0 0 (MQ below (va_Qi post (zz_B D zz_cl (zz_ty cI cZ cL) (gw_C cI cZ cL a) A) A) args s 0 0 A) (F0 m 34 ls [.int y0, .int y1]) := by
  intro x2 y0 y1 u H locs ls hw hl h
  unfold wp_G_countParts_34 at h
  obtain ⟨hx, hb, hr, hml, hown, hts, hlk, hK, hA⟩ := id cx
  refine lv_iadd hx hb d_G_countParts_34 ?_
  refine lv_topi (fun v3 ev3 => ?_)
  replace h := h v3 ev3
  refine lv_istore_n (lv' := [(1, .int v3), (0, .ref (a 1)), (2, .int x2)]) hx hb d_G_countParts_35 rfl hl (by decide) rfl (fun ls hl => ?_)
  refine lv_iinc (v := x2 + 1) (lv' := [(2, .int (x2 + 1)), (1, .int v3), (0, .ref (a 1))]) hx hb d_G_countParts_36 hl (k := 2) rfl rfl (by decide) rfl (fun ls hl => ?_)
  refine lv_goto (tgt := 4) hx hb d_G_countParts_39 (by decide) ?_
  exact hkn4 v3 (x2 + 1) u _ _ _ hw (lv_sub hl [2, 1, 0] rfl) h
set_option maxRecDepth 100000 in
set_option maxHeartbeats 4000000 in
theorem wk_G_countParts_102 {p : Program} {l : Launch} {e : Env} {s : State} {m : MethodId} {args : Array Value} {below : List Frame} {meth : Method} {c : Code} {A : Nat → Prop} {D : va_G} {cI cZ cL : ClassId} {a : Nat → Nat} (cx : zz_Cx p s m args meth c "GridFills$Grid" b_G_countParts 4 (some .int) D zz_cl (zz_ty cI cZ cL) A) (post : Int32 → zz_St → Prop) {kn44 : Int32 → Int32 → zz_St → Prop} {kn54 : Int32 → Int32 → Int32 → zz_St → Prop} (hkn44 : ∀ (x1 : Int32) (x2 : Int32) (u : zz_St) (H : Heap) (locs : List Loc) (ls : Array Slot), zz_Wd D zz_cl A s.heap H locs (gw_C cI cZ cL a u) → lv_has ls 4 [(0, .ref (a 1)), (1, .int x1), (2, .int x2)] → kn44 x1 x2 u → W p l e (rm_G_countParts) s m args below meth c H locs 0 0 (MQ below (va_Qi post (zz_B D zz_cl (zz_ty cI cZ cL) (gw_C cI cZ cL a) A) A) args s 0 0 A) (F0 m 44 ls [])) (hkn54 : ∀ (x1 : Int32) (x2 : Int32) (x3 : Int32) (u : zz_St) (H : Heap) (locs : List Loc) (ls : Array Slot), zz_Wd D zz_cl A s.heap H locs (gw_C cI cZ cL a u) → lv_has ls 4 [(0, .ref (a 1)), (1, .int x1), (2, .int x2), (3, .int x3)] → kn54 x1 x2 x3 u → W p l e (rm_G_countParts) s m args below meth c H locs 0 0 (MQ below (va_Qi post (zz_B D zz_cl (zz_ty cI cZ cL) (gw_C cI cZ cL a) A) A) args s 0 0 A) (F0 m 54 ls [])) : ∀ (x2 : Int32) (x3 : Int32) (y0 : Int32) (y1 : Int32) (u : zz_St) (H : Heap) (locs : List Loc) (ls : Array Slot), zz_Wd D zz_cl A s.heap H locs (gw_C cI cZ cL a u) → lv_has ls 4 [(0, .ref (a 1)), (2, .int x2), (3, .int x3)] → wp_G_countParts_102 post kn44 kn54 x2 x3 y0 y1 u → W p l e (rm_G_countParts) s m args below meth c H locs 0 0 (MQ below (va_Qi post (zz_B D zz_cl (zz_ty cI cZ cL) (gw_C cI cZ cL a) A) A) args s 0 0 A) (F0 m 102 ls [.int y0, .int y1]) := by
  intro x2 x3 y0 y1 u H locs ls hw hl h
  unfold wp_G_countParts_102 at h
  obtain ⟨hx, hb, hr, hml, hown, hts, hlk, hK, hA⟩ := id cx
  refine lv_isub hx hb d_G_countParts_102 ?_
  refine lv_topi (fun v13 ev13 => ?_)
  replace h := h v13 ev13
  refine lv_istore_n (lv' := [(1, .int v13), (0, .ref (a 1)), (2, .int x2), (3, .int x3)]) hx hb d_G_countParts_103 rfl hl (by decide) rfl (fun ls hl => ?_)
  refine lv_iinc (v := x3 + 1) (lv' := [(3, .int (x3 + 1)), (1, .int v13), (0, .ref (a 1)), (2, .int x2)]) hx hb d_G_countParts_104 hl (k := 3) rfl rfl (by decide) rfl (fun ls hl => ?_)
  refine lv_goto (tgt := 54) hx hb d_G_countParts_107 (by decide) ?_
  exact hkn54 v13 x2 (x3 + 1) u _ _ _ hw (lv_sub hl [2, 1, 3, 0] rfl) h
set_option maxRecDepth 100000 in
set_option maxHeartbeats 4000000 in
theorem wk_G_countParts_81 {p : Program} {l : Launch} {e : Env} {s : State} {m : MethodId} {args : Array Value} {below : List Frame} {meth : Method} {c : Code} {A : Nat → Prop} {D : va_G} {cI cZ cL : ClassId} {a : Nat → Nat} (cx : zz_Cx p s m args meth c "GridFills$Grid" b_G_countParts 4 (some .int) D zz_cl (zz_ty cI cZ cL) A) (post : Int32 → zz_St → Prop) {kn44 : Int32 → Int32 → zz_St → Prop} {kn54 : Int32 → Int32 → Int32 → zz_St → Prop} (hkn44 : ∀ (x1 : Int32) (x2 : Int32) (u : zz_St) (H : Heap) (locs : List Loc) (ls : Array Slot), zz_Wd D zz_cl A s.heap H locs (gw_C cI cZ cL a u) → lv_has ls 4 [(0, .ref (a 1)), (1, .int x1), (2, .int x2)] → kn44 x1 x2 u → W p l e (rm_G_countParts) s m args below meth c H locs 0 0 (MQ below (va_Qi post (zz_B D zz_cl (zz_ty cI cZ cL) (gw_C cI cZ cL a) A) A) args s 0 0 A) (F0 m 44 ls [])) (hkn54 : ∀ (x1 : Int32) (x2 : Int32) (x3 : Int32) (u : zz_St) (H : Heap) (locs : List Loc) (ls : Array Slot), zz_Wd D zz_cl A s.heap H locs (gw_C cI cZ cL a u) → lv_has ls 4 [(0, .ref (a 1)), (1, .int x1), (2, .int x2), (3, .int x3)] → kn54 x1 x2 x3 u → W p l e (rm_G_countParts) s m args below meth c H locs 0 0 (MQ below (va_Qi post (zz_B D zz_cl (zz_ty cI cZ cL) (gw_C cI cZ cL a) A) A) args s 0 0 A) (F0 m 54 ls [])) : ∀ (x2 : Int32) (x3 : Int32) (y0 : Int32) (y1 : Int32) (u : zz_St) (H : Heap) (locs : List Loc) (ls : Array Slot), zz_Wd D zz_cl A s.heap H locs (gw_C cI cZ cL a u) → lv_has ls 4 [(0, .ref (a 1)), (2, .int x2), (3, .int x3)] → wp_G_countParts_81 post kn44 kn54 x2 x3 y0 y1 u → W p l e (rm_G_countParts) s m args below meth c H locs 0 0 (MQ below (va_Qi post (zz_B D zz_cl (zz_ty cI cZ cL) (gw_C cI cZ cL a) A) A) args s 0 0 A) (F0 m 81 ls [.int y0, .int y1]) := by
  intro x2 x3 y0 y1 u H locs ls hw hl h
  unfold wp_G_countParts_81 at h
  obtain ⟨hx, hb, hr, hml, hown, hts, hlk, hK, hA⟩ := id cx
  refine lv_isub hx hb d_G_countParts_81 ?_
  refine lv_topi (fun v9 ev9 => ?_)
  replace h := h v9 ev9
  refine lv_istore_n (lv' := [(1, .int v9), (0, .ref (a 1)), (2, .int x2), (3, .int x3)]) hx hb d_G_countParts_82 rfl hl (by decide) rfl (fun ls hl => ?_)
  refine lv_iload_n hx hb d_G_countParts_83 rfl (lv_at hl 0 rfl) ?_
  refine lv_aload_n hx hb d_G_countParts_84 rfl (lv_at hl 1 rfl) ?_
  refine lv_iload_n hx hb d_G_countParts_85 rfl (lv_at hl 3 rfl) ?_
  refine lv_iload_n hx hb d_G_countParts_86 rfl (lv_at hl 2 rfl) ?_
  refine lv_iload_n hx hb d_G_countParts_87 rfl (lv_at hl 3 rfl) ?_
  refine lv_iload_n hx hb d_G_countParts_88 rfl (lv_at hl 2 rfl) ?_
  refine lv_iconst (v := 1) hx hb d_G_countParts_89 (by decide) ?_
  refine lv_iadd hx hb d_G_countParts_90 ?_
  refine zz_callVi (As := [.int x3, .int x2, .int x3, .int (x2 + 1)]) (rest := [.int v9]) cx hw (ct_G_join l D cI cZ cL a h) (zz_gV kw_49 kw_51 kw_52 kw_13 kw_50) hd_G_join ⟨rfl, rfl⟩ ⟨Nat.le_of_ble_eq_true rfl, Nat.le_of_ble_eq_true rfl⟩ 1 rfl rfl rfl rfl hl.1 rfl (Nat.le_of_ble_eq_true rfl) d_G_countParts_91 (fun r11 s10 H locs h hw => ?_)
  refine lv_if_eq (tgt := 101) hx hb d_G_countParts_94 (by decide) (fun c12 => ?_) (fun c12 => ?_)
  · replace h := h.1 c12
    refine lv_iconst (v := 0) hx hb d_G_countParts_101 (by decide) ?_
    exact wk_G_countParts_102 cx post hkn44 hkn54 x2 x3 0 v9 s10 _ _ _ hw (lv_sub hl [1, 2, 3] rfl) h
  · replace h := h.2 c12
    refine lv_iconst (v := 1) hx hb d_G_countParts_97 (by decide) ?_
    refine lv_goto (tgt := 102) hx hb d_G_countParts_98 (by decide) ?_
    exact wk_G_countParts_102 cx post hkn44 hkn54 x2 x3 1 v9 s10 _ _ _ hw (lv_sub hl [1, 2, 3] rfl) h
set_option maxRecDepth 100000 in
set_option maxHeartbeats 4000000 in
theorem wk_G_countParts_54 {p : Program} {l : Launch} {e : Env} {s : State} {m : MethodId} {args : Array Value} {below : List Frame} {meth : Method} {c : Code} {A : Nat → Prop} {D : va_G} {cI cZ cL : ClassId} {a : Nat → Nat} (cx : zz_Cx p s m args meth c "GridFills$Grid" b_G_countParts 4 (some .int) D zz_cl (zz_ty cI cZ cL) A) (post : Int32 → zz_St → Prop) {kn44 : Int32 → Int32 → zz_St → Prop} {kn54 : Int32 → Int32 → Int32 → zz_St → Prop} (hkn44 : ∀ (x1 : Int32) (x2 : Int32) (u : zz_St) (H : Heap) (locs : List Loc) (ls : Array Slot), zz_Wd D zz_cl A s.heap H locs (gw_C cI cZ cL a u) → lv_has ls 4 [(0, .ref (a 1)), (1, .int x1), (2, .int x2)] → kn44 x1 x2 u → W p l e (rm_G_countParts) s m args below meth c H locs 0 0 (MQ below (va_Qi post (zz_B D zz_cl (zz_ty cI cZ cL) (gw_C cI cZ cL a) A) A) args s 0 0 A) (F0 m 44 ls [])) (hkn54 : ∀ (x1 : Int32) (x2 : Int32) (x3 : Int32) (u : zz_St) (H : Heap) (locs : List Loc) (ls : Array Slot), zz_Wd D zz_cl A s.heap H locs (gw_C cI cZ cL a u) → lv_has ls 4 [(0, .ref (a 1)), (1, .int x1), (2, .int x2), (3, .int x3)] → kn54 x1 x2 x3 u → W p l e (rm_G_countParts) s m args below meth c H locs 0 0 (MQ below (va_Qi post (zz_B D zz_cl (zz_ty cI cZ cL) (gw_C cI cZ cL a) A) A) args s 0 0 A) (F0 m 54 ls [])) : ∀ (x1 : Int32) (x2 : Int32) (x3 : Int32) (u : zz_St) (H : Heap) (locs : List Loc) (ls : Array Slot), zz_Wd D zz_cl A s.heap H locs (gw_C cI cZ cL a u) → lv_has ls 4 [(0, .ref (a 1)), (1, .int x1), (2, .int x2), (3, .int x3)] → wp_G_countParts_54 post kn44 kn54 x1 x2 x3 u → W p l e (rm_G_countParts) s m args below meth c H locs 0 0 (MQ below (va_Qi post (zz_B D zz_cl (zz_ty cI cZ cL) (gw_C cI cZ cL a) A) A) args s 0 0 A) (F0 m 54 ls []) := by
  intro x1 x2 x3 u H locs ls hw hl h
  unfold wp_G_countParts_54 at h
  obtain ⟨hx, hb, hr, hml, hown, hts, hlk, hK, hA⟩ := id cx
  refine lv_iload_n hx hb d_G_countParts_54 rfl (lv_at hl 3 rfl) ?_
  refine lv_aload_n hx hb d_G_countParts_55 rfl (lv_at hl 0 rfl) ?_
  refine zz_get (v2 := .int (sg_i u 0)) cx hw in_G 1 rfl rfl 0 (by decide) kw_3 rfl rfl d_G_countParts_56 ?_
  refine lv_icmp_ge (tgt := 110) hx hb d_G_countParts_59 (by decide) (fun c5 => ?_) (fun c5 => ?_)
  · replace h := h.1 c5
    refine lv_iinc (v := x2 + 1) (lv' := [(2, .int (x2 + 1)), (0, .ref (a 1)), (1, .int x1), (3, .int x3)]) hx hb d_G_countParts_110 hl (k := 2) rfl rfl (by decide) rfl (fun ls hl => ?_)
    refine lv_goto (tgt := 44) hx hb d_G_countParts_113 (by decide) ?_
    exact hkn44 x1 (x2 + 1) u _ _ _ hw (lv_sub hl [1, 2, 0] rfl) h
  · replace h := h.2 c5
    refine lv_iload_n hx hb d_G_countParts_62 rfl (lv_at hl 1 rfl) ?_
    refine lv_aload_n hx hb d_G_countParts_63 rfl (lv_at hl 0 rfl) ?_
    refine lv_iload_n hx hb d_G_countParts_64 rfl (lv_at hl 3 rfl) ?_
    refine lv_iload_n hx hb d_G_countParts_65 rfl (lv_at hl 2 rfl) ?_
    refine lv_iload_n hx hb d_G_countParts_66 rfl (lv_at hl 3 rfl) ?_
    refine lv_iconst (v := 1) hx hb d_G_countParts_67 (by decide) ?_
    refine lv_iadd hx hb d_G_countParts_68 ?_
    refine lv_iload_n hx hb d_G_countParts_69 rfl (lv_at hl 2 rfl) ?_
    refine zz_callVi (As := [.int x3, .int x2, .int (x3 + 1), .int x2]) (rest := [.int x1]) cx hw (ct_G_join l D cI cZ cL a h) (zz_gV kw_49 kw_51 kw_52 kw_13 kw_50) hd_G_join ⟨rfl, rfl⟩ ⟨Nat.le_of_ble_eq_true rfl, Nat.le_of_ble_eq_true rfl⟩ 1 rfl rfl rfl rfl hl.1 rfl (Nat.le_of_ble_eq_true rfl) d_G_countParts_70 (fun r7 s6 H locs h hw => ?_)
    refine lv_if_eq (tgt := 80) hx hb d_G_countParts_73 (by decide) (fun c8 => ?_) (fun c8 => ?_)
    · replace h := h.1 c8
      refine lv_iconst (v := 0) hx hb d_G_countParts_80 (by decide) ?_
      exact wk_G_countParts_81 cx post hkn44 hkn54 x2 x3 0 x1 s6 _ _ _ hw (lv_sub hl [0, 2, 3] rfl) h
    · replace h := h.2 c8
      refine lv_iconst (v := 1) hx hb d_G_countParts_76 (by decide) ?_
      refine lv_goto (tgt := 81) hx hb d_G_countParts_77 (by decide) ?_
      exact wk_G_countParts_81 cx post hkn44 hkn54 x2 x3 1 x1 s6 _ _ _ hw (lv_sub hl [0, 2, 3] rfl) h
set_option maxRecDepth 100000 in
set_option maxHeartbeats 4000000 in
theorem wk_G_countParts_54_f {p : Program} {l : Launch} {e : Env} {s : State} {m : MethodId} {args : Array Value} {below : List Frame} {meth : Method} {c : Code} {A : Nat → Prop} {D : va_G} {cI cZ cL : ClassId} {a : Nat → Nat} (cx : zz_Cx p s m args meth c "GridFills$Grid" b_G_countParts 4 (some .int) D zz_cl (zz_ty cI cZ cL) A) (post : Int32 → zz_St → Prop) {kn44 : Int32 → Int32 → zz_St → Prop} (hkn44 : ∀ (x1 : Int32) (x2 : Int32) (u : zz_St) (H : Heap) (locs : List Loc) (ls : Array Slot), zz_Wd D zz_cl A s.heap H locs (gw_C cI cZ cL a u) → lv_has ls 4 [(0, .ref (a 1)), (1, .int x1), (2, .int x2)] → kn44 x1 x2 u → W p l e (rm_G_countParts) s m args below meth c H locs 0 0 (MQ below (va_Qi post (zz_B D zz_cl (zz_ty cI cZ cL) (gw_C cI cZ cL a) A) A) args s 0 0 A) (F0 m 44 ls [])) : ∀ n : Nat, ∀ (x1 : Int32) (x2 : Int32) (x3 : Int32) (u : zz_St) (H : Heap) (locs : List Loc) (ls : Array Slot), zz_Wd D zz_cl A s.heap H locs (gw_C cI cZ cL a u) → lv_has ls 4 [(0, .ref (a 1)), (1, .int x1), (2, .int x2), (3, .int x3)] → wp_G_countParts_54_f post kn44 n x1 x2 x3 u → W p l e (rm_G_countParts) s m args below meth c H locs 0 0 (MQ below (va_Qi post (zz_B D zz_cl (zz_ty cI cZ cL) (gw_C cI cZ cL a) A) A) args s 0 0 A) (F0 m 54 ls []) := by
  intro n
  induction n with
  | zero => exact fun _ _ _ _ _ _ _ _ _ h => False.elim h
  | succ n ih => exact wk_G_countParts_54 cx post hkn44 ih
set_option maxRecDepth 100000 in
set_option maxHeartbeats 4000000 in
theorem wk_G_countParts_44 {p : Program} {l : Launch} {e : Env} {s : State} {m : MethodId} {args : Array Value} {below : List Frame} {meth : Method} {c : Code} {A : Nat → Prop} {D : va_G} {cI cZ cL : ClassId} {a : Nat → Nat} (cx : zz_Cx p s m args meth c "GridFills$Grid" b_G_countParts 4 (some .int) D zz_cl (zz_ty cI cZ cL) A) (post : Int32 → zz_St → Prop) {kn44 : Int32 → Int32 → zz_St → Prop} (hkn44 : ∀ (x1 : Int32) (x2 : Int32) (u : zz_St) (H : Heap) (locs : List Loc) (ls : Array Slot), zz_Wd D zz_cl A s.heap H locs (gw_C cI cZ cL a u) → lv_has ls 4 [(0, .ref (a 1)), (1, .int x1), (2, .int x2)] → kn44 x1 x2 u → W p l e (rm_G_countParts) s m args below meth c H locs 0 0 (MQ below (va_Qi post (zz_B D zz_cl (zz_ty cI cZ cL) (gw_C cI cZ cL a) A) A) args s 0 0 A) (F0 m 44 ls [])) : ∀ (x1 : Int32) (x2 : Int32) (u : zz_St) (H : Heap) (locs : List Loc) (ls : Array Slot), zz_Wd D zz_cl A s.heap H locs (gw_C cI cZ cL a u) → lv_has ls 4 [(0, .ref (a 1)), (1, .int x1), (2, .int x2)] → wp_G_countParts_44 post kn44 x1 x2 u → W p l e (rm_G_countParts) s m args below meth c H locs 0 0 (MQ below (va_Qi post (zz_B D zz_cl (zz_ty cI cZ cL) (gw_C cI cZ cL a) A) A) args s 0 0 A) (F0 m 44 ls []) := by
  intro x1 x2 u H locs ls hw hl h
  unfold wp_G_countParts_44 at h
  obtain ⟨hx, hb, hr, hml, hown, hts, hlk, hK, hA⟩ := id cx
  refine lv_iload_n hx hb d_G_countParts_44 rfl (lv_at hl 2 rfl) ?_
  refine lv_aload_n hx hb d_G_countParts_45 rfl (lv_at hl 0 rfl) ?_
  refine zz_get (v2 := .int (sg_i u 1)) cx hw in_G 1 rfl rfl 1 (by decide) kw_4 rfl rfl d_G_countParts_46 ?_
  refine lv_icmp_ge (tgt := 116) hx hb d_G_countParts_49 (by decide) (fun c4 => ?_) (fun c4 => ?_)
  · replace h := h.1 c4
    refine lv_iload_n hx hb d_G_countParts_116 rfl (lv_at hl 1 rfl) ?_
    exact zz_reti cx hw d_G_countParts_117 h
  · replace h := h.2 c4
    refine lv_iconst (v := 0) hx hb d_G_countParts_52 (by decide) ?_
    refine lv_istore_n (lv' := [(3, .int 0), (0, .ref (a 1)), (1, .int x1), (2, .int x2)]) hx hb d_G_countParts_53 rfl hl (by decide) rfl (fun ls hl => ?_)
    obtain ⟨n, h⟩ := h
    exact wk_G_countParts_54_f cx post hkn44 n x1 x2 0 u _ _ _ hw (lv_sub hl [1, 2, 3, 0] rfl) h
set_option maxRecDepth 100000 in
set_option maxHeartbeats 4000000 in
theorem wk_G_countParts_44_f {p : Program} {l : Launch} {e : Env} {s : State} {m : MethodId} {args : Array Value} {below : List Frame} {meth : Method} {c : Code} {A : Nat → Prop} {D : va_G} {cI cZ cL : ClassId} {a : Nat → Nat} (cx : zz_Cx p s m args meth c "GridFills$Grid" b_G_countParts 4 (some .int) D zz_cl (zz_ty cI cZ cL) A) (post : Int32 → zz_St → Prop) : ∀ n : Nat, ∀ (x1 : Int32) (x2 : Int32) (u : zz_St) (H : Heap) (locs : List Loc) (ls : Array Slot), zz_Wd D zz_cl A s.heap H locs (gw_C cI cZ cL a u) → lv_has ls 4 [(0, .ref (a 1)), (1, .int x1), (2, .int x2)] → wp_G_countParts_44_f post n x1 x2 u → W p l e (rm_G_countParts) s m args below meth c H locs 0 0 (MQ below (va_Qi post (zz_B D zz_cl (zz_ty cI cZ cL) (gw_C cI cZ cL a) A) A) args s 0 0 A) (F0 m 44 ls []) := by
  intro n
  induction n with
  | zero => exact fun _ _ _ _ _ _ _ _ h => False.elim h
  | succ n ih => exact wk_G_countParts_44 cx post ih
set_option maxRecDepth 100000 in
set_option maxHeartbeats 4000000 in
theorem wk_G_countParts_4 {p : Program} {l : Launch} {e : Env} {s : State} {m : MethodId} {args : Array Value} {below : List Frame} {meth : Method} {c : Code} {A : Nat → Prop} {D : va_G} {cI cZ cL : ClassId} {a : Nat → Nat} (cx : zz_Cx p s m args meth c "GridFills$Grid" b_G_countParts 4 (some .int) D zz_cl (zz_ty cI cZ cL) A) (post : Int32 → zz_St → Prop) {kn4 : Int32 → Int32 → zz_St → Prop} (hkn4 : ∀ (x1 : Int32) (x2 : Int32) (u : zz_St) (H : Heap) (locs : List Loc) (ls : Array Slot), zz_Wd D zz_cl A s.heap H locs (gw_C cI cZ cL a u) → lv_has ls 4 [(0, .ref (a 1)), (1, .int x1), (2, .int x2)] → kn4 x1 x2 u → W p l e (rm_G_countParts) s m args below meth c H locs 0 0 (MQ below (va_Qi post (zz_B D zz_cl (zz_ty cI cZ cL) (gw_C cI cZ cL a) A) A) args s 0 0 A) (F0 m 4 ls [])) : ∀ (x1 : Int32) (x2 : Int32) (u : zz_St) (H : Heap) (locs : List Loc) (ls : Array Slot), zz_Wd D zz_cl A s.heap H locs (gw_C cI cZ cL a u) → lv_has ls 4 [(0, .ref (a 1)), (1, .int x1), (2, .int x2)] → wp_G_countParts_4 post kn4 x1 x2 u → W p l e (rm_G_countParts) s m args below meth c H locs 0 0 (MQ below (va_Qi post (zz_B D zz_cl (zz_ty cI cZ cL) (gw_C cI cZ cL a) A) A) args s 0 0 A) (F0 m 4 ls []) := by
  intro x1 x2 u H locs ls hw hl h
  unfold wp_G_countParts_4 at h
  obtain ⟨hx, hb, hr, hml, hown, hts, hlk, hK, hA⟩ := id cx
  refine lv_iload_n hx hb d_G_countParts_4 rfl (lv_at hl 2 rfl) ?_
  refine lv_aload_n hx hb d_G_countParts_5 rfl (lv_at hl 0 rfl) ?_
  refine zz_get (v2 := .int (sg_i u 2)) cx hw in_G 1 rfl rfl 2 (by decide) kw_48 rfl rfl d_G_countParts_6 ?_
  refine lv_icmp_ge (tgt := 42) hx hb d_G_countParts_9 (by decide) (fun c1 => ?_) (fun c1 => ?_)
  · replace h := h.1 c1
    refine lv_iconst (v := 0) hx hb d_G_countParts_42 (by decide) ?_
    refine lv_istore_n (lv' := [(2, .int 0), (0, .ref (a 1)), (1, .int x1)]) hx hb d_G_countParts_43 rfl hl (by decide) rfl (fun ls hl => ?_)
    obtain ⟨n, h⟩ := h
    exact wk_G_countParts_44_f cx post  n x1 0 u _ _ _ hw (lv_sub hl [1, 2, 0] rfl) h
  · replace h := h.2 c1
    refine lv_aload_n hx hb d_G_countParts_12 rfl (lv_at hl 0 rfl) ?_
    refine zz_get (v2 := .ref (a 13)) cx hw in_G 1 rfl rfl 12 (by decide) kw_47 rfl rfl d_G_countParts_13 ?_
    refine lv_iload_n hx hb d_G_countParts_16 rfl (lv_at hl 2 rfl) ?_
    refine lv_iload_n hx hb d_G_countParts_17 rfl (lv_at hl 2 rfl) ?_
    obtain ⟨hi, h⟩ := h
    refine zz_iast (ws' := gw_C cI cZ cL a (ss_a u 8 (upd (sg_a u 8) x2.toNatClampNeg x2))) cx hw 13 0 rfl rfl hi rfl (gw_C_a8 _ _ _ _ _ _) d_G_countParts_18 (fun H locs hw => ?_)
    refine lv_iload_n hx hb d_G_countParts_19 rfl (lv_at hl 1 rfl) ?_
    refine lv_aload_n hx hb d_G_countParts_20 rfl (lv_at hl 0 rfl) ?_
    refine zz_get (v2 := .ref (a 5)) cx hw in_G 1 rfl rfl 3 (by decide) kw_10 rfl rfl d_G_countParts_21 ?_
    refine lv_iload_n hx hb d_G_countParts_24 rfl (lv_at hl 2 rfl) ?_
    obtain ⟨hi, h⟩ := h
    refine zz_zald (f2 := sg_a u 0) cx hw 5 1 rfl rfl hi (sy_a _ _ (by decide)) d_G_countParts_25 ?_
    refine lv_if_eq (tgt := 33) hx hb d_G_countParts_26 (by decide) (fun c2 => ?_) (fun c2 => ?_)
    · replace h := h.1 c2
      refine lv_iconst (v := 1) hx hb d_G_countParts_33 (by decide) ?_
      exact wk_G_countParts_34 cx post hkn4 x2 1 x1 (ss_a u 8 (upd (sg_a u 8) x2.toNatClampNeg x2)) _ _ _ hw (lv_sub hl [0, 2] rfl) h
    · replace h := h.2 c2
      refine lv_iconst (v := 0) hx hb d_G_countParts_29 (by decide) ?_
      refine lv_goto (tgt := 34) hx hb d_G_countParts_30 (by decide) ?_
      exact wk_G_countParts_34 cx post hkn4 x2 0 x1 (ss_a u 8 (upd (sg_a u 8) x2.toNatClampNeg x2)) _ _ _ hw (lv_sub hl [0, 2] rfl) h
set_option maxRecDepth 100000 in
set_option maxHeartbeats 4000000 in
theorem wk_G_countParts_4_f {p : Program} {l : Launch} {e : Env} {s : State} {m : MethodId} {args : Array Value} {below : List Frame} {meth : Method} {c : Code} {A : Nat → Prop} {D : va_G} {cI cZ cL : ClassId} {a : Nat → Nat} (cx : zz_Cx p s m args meth c "GridFills$Grid" b_G_countParts 4 (some .int) D zz_cl (zz_ty cI cZ cL) A) (post : Int32 → zz_St → Prop) : ∀ n : Nat, ∀ (x1 : Int32) (x2 : Int32) (u : zz_St) (H : Heap) (locs : List Loc) (ls : Array Slot), zz_Wd D zz_cl A s.heap H locs (gw_C cI cZ cL a u) → lv_has ls 4 [(0, .ref (a 1)), (1, .int x1), (2, .int x2)] → wp_G_countParts_4_f post n x1 x2 u → W p l e (rm_G_countParts) s m args below meth c H locs 0 0 (MQ below (va_Qi post (zz_B D zz_cl (zz_ty cI cZ cL) (gw_C cI cZ cL a) A) A) args s 0 0 A) (F0 m 4 ls []) := by
  intro n
  induction n with
  | zero => exact fun _ _ _ _ _ _ _ _ h => False.elim h
  | succ n ih => exact wk_G_countParts_4 cx post ih
set_option maxRecDepth 100000 in
set_option maxHeartbeats 4000000 in
theorem ct_G_countParts (l : Launch) (D : va_G) (cI cZ cL : ClassId) (a : Nat → Nat) {u : zz_St} {post : Int32 → zz_St → Prop} (h : wp_G_countParts  u post) : zz_MI l y_G_countParts (.code y_G_countParts b_G_countParts 4 (some .int) :: zz_tbl) (rm_G_countParts) D zz_cl (zz_ty cI cZ cL) (gw_C cI cZ cL a) [.ref (a 1)] u post := by
  unfold wp_G_countParts at h
  refine zz_ofI (by decide) (Nat.le_of_ble_eq_true rfl) ?_
  intro p e s m below meth c A cx hw ls hl
  obtain ⟨hx, hb, hr, hml, hown, hts, hlk, hK, hA⟩ := id cx
  refine lv_iconst (v := 0) hx hb d_G_countParts_0 (by decide) ?_
  refine lv_istore_n (lv' := [(1, .int 0), (0, .ref (a 1))]) hx hb d_G_countParts_1 rfl hl (by decide) rfl (fun ls hl => ?_)
  refine lv_iconst (v := 0) hx hb d_G_countParts_2 (by decide) ?_
  refine lv_istore_n (lv' := [(2, .int 0), (1, .int 0), (0, .ref (a 1))]) hx hb d_G_countParts_3 rfl hl (by decide) rfl (fun ls hl => ?_)
  obtain ⟨n, h⟩ := h
  exact wk_G_countParts_4_f cx post  n 0 0 u _ _ _ hw (lv_sub hl [2, 1, 0] rfl) h
