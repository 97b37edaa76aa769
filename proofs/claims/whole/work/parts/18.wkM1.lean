set_option maxRecDepth 100000 in
set_option maxHeartbeats 4000000 in
theorem ct_M_isCell (l : Launch) (D : va_G) (cI cZ cL : ClassId) (a : Nat → Nat) {a0 : Int32} {a1 : Int32} {u : zz_St} {post : Int32 → zz_St → Prop} (h : wp_M_isCell  a0 a1 u post) : zz_MI l y_M_isCell (.code y_M_isCell b_M_isCell 3 (some .boolean) :: zz_tbl) (rm_M_isCell) D zz_cl (zz_ty cI cZ cL) (gw_M cI cZ cL a) [.ref (a 0), .int a0, .int a1] u post := by
  unfold wp_M_isCell at h
  refine zz_ofI (by decide) (Nat.le_of_ble_eq_true rfl) ?_
  intro p e s m below meth c A cx hw ls hl
  obtain ⟨hx, hb, hr, hml, hown, hts, hlk, hK, hA⟩ := id cx
  refine lv_iload_n hx hb d_M_isCell_0 rfl (lv_at hl 1 rfl) ?_
  refine lv_if_lt (tgt := 28) hx hb d_M_isCell_1 (by decide) (fun c1 => ?_) (fun c1 => ?_)
  · replace h := h.1 c1
    refine lv_iconst (v := 0) hx hb d_M_isCell_28 (by decide) ?_
    exact zz_retz cx hw d_M_isCell_29 (by decide) h
  · replace h := h.2 c1
    refine lv_iload_n hx hb d_M_isCell_4 rfl (lv_at hl 1 rfl) ?_
    refine lv_aload_n hx hb d_M_isCell_5 rfl (lv_at hl 0 rfl) ?_
    refine zz_get (v2 := .int (sg_i u 1)) cx hw in_M 0 rfl rfl 1 (by decide) kw_296 rfl rfl d_M_isCell_6 ?_
    refine lv_icmp_ge (tgt := 28) hx hb d_M_isCell_9 (by decide) (fun c2 => ?_) (fun c2 => ?_)
    · replace h := h.1 c2
      refine lv_iconst (v := 0) hx hb d_M_isCell_28 (by decide) ?_
      exact zz_retz cx hw d_M_isCell_29 (by decide) h
    · replace h := h.2 c2
      refine lv_iload_n hx hb d_M_isCell_12 rfl (lv_at hl 2 rfl) ?_
      refine lv_if_lt (tgt := 28) hx hb d_M_isCell_13 (by decide) (fun c3 => ?_) (fun c3 => ?_)
      · replace h := h.1 c3
        refine lv_iconst (v := 0) hx hb d_M_isCell_28 (by decide) ?_
        exact zz_retz cx hw d_M_isCell_29 (by decide) h
      · replace h := h.2 c3
        refine lv_iload_n hx hb d_M_isCell_16 rfl (lv_at hl 2 rfl) ?_
        refine lv_aload_n hx hb d_M_isCell_17 rfl (lv_at hl 0 rfl) ?_
        refine zz_get (v2 := .int (sg_i u 2)) cx hw in_M 0 rfl rfl 2 (by decide) kw_297 rfl rfl d_M_isCell_18 ?_
        refine lv_icmp_ge (tgt := 28) hx hb d_M_isCell_21 (by decide) (fun c4 => ?_) (fun c4 => ?_)
        · replace h := h.1 c4
          refine lv_iconst (v := 0) hx hb d_M_isCell_28 (by decide) ?_
          exact zz_retz cx hw d_M_isCell_29 (by decide) h
        · replace h := h.2 c4
          refine lv_iconst (v := 1) hx hb d_M_isCell_24 (by decide) ?_
          refine lv_goto (tgt := 29) hx hb d_M_isCell_25 (by decide) ?_
          exact zz_retz cx hw d_M_isCell_29 (by decide) h
set_option maxRecDepth 100000 in
set_option maxHeartbeats 4000000 in
theorem ct_M_isOpen (l : Launch) (D : va_G) (cI cZ cL : ClassId) (a : Nat → Nat) {a0 : Int32} {a1 : Int32} {u : zz_St} {post : Int32 → zz_St → Prop} (h : wp_M_isOpen  a0 a1 u post) : zz_MI l y_M_isOpen (.code y_M_isOpen b_M_isOpen 3 (some .boolean) :: zz_tbl) (rm_M_isOpen) D zz_cl (zz_ty cI cZ cL) (gw_M cI cZ cL a) [.ref (a 0), .int a0, .int a1] u post := by
  unfold wp_M_isOpen at h
  refine zz_ofI (by decide) (Nat.le_of_ble_eq_true rfl) ?_
  intro p e s m below meth c A cx hw ls hl
  obtain ⟨hx, hb, hr, hml, hown, hts, hlk, hK, hA⟩ := id cx
  refine lv_aload_n hx hb d_M_isOpen_0 rfl (lv_at hl 0 rfl) ?_
  refine lv_iload_n hx hb d_M_isOpen_1 rfl (lv_at hl 1 rfl) ?_
  refine lv_iload_n hx hb d_M_isOpen_2 rfl (lv_at hl 2 rfl) ?_
  refine zz_callVi (As := [.int a0, .int a1]) (rest := []) cx hw (ct_M_isCell l D cI cZ cL a h) (zz_gV kw_299 kw_302 kw_303 kw_301 kw_300) hd_M_isCell ⟨rfl, rfl⟩ ⟨Nat.le_of_ble_eq_true rfl, Nat.le_of_ble_eq_true rfl⟩ 0 rfl rfl rfl rfl hl.1 rfl (Nat.le_of_ble_eq_true rfl) d_M_isOpen_3 (fun r2 s1 H locs h hw => ?_)
  refine lv_if_eq (tgt := 29) hx hb d_M_isOpen_6 (by decide) (fun c3 => ?_) (fun c3 => ?_)
  · replace h := h.1 c3
    refine lv_iconst (v := 0) hx hb d_M_isOpen_29 (by decide) ?_
    exact zz_retz cx hw d_M_isOpen_30 (by decide) h
  · replace h := h.2 c3
    refine lv_aload_n hx hb d_M_isOpen_9 rfl (lv_at hl 0 rfl) ?_
    refine zz_get (v2 := .ref (a 1)) cx hw in_M 0 rfl rfl 3 (by decide) kw_298 rfl rfl d_M_isOpen_10 ?_
    refine lv_aload_n hx hb d_M_isOpen_13 rfl (lv_at hl 0 rfl) ?_
    refine zz_get (v2 := .int (sg_i s1 1)) cx hw in_M 0 rfl rfl 1 (by decide) kw_296 rfl rfl d_M_isOpen_14 ?_
    refine lv_iload_n hx hb d_M_isOpen_17 rfl (lv_at hl 2 rfl) ?_
    refine lv_imul hx hb d_M_isOpen_18 ?_
    refine lv_iload_n hx hb d_M_isOpen_19 rfl (lv_at hl 1 rfl) ?_
    refine lv_iadd hx hb d_M_isOpen_20 ?_
    obtain ⟨hi, h⟩ := h
    refine zz_zald (f2 := sg_a s1 0) cx hw 1 1 rfl rfl hi rfl d_M_isOpen_21 ?_
    refine lv_if_ne (tgt := 29) hx hb d_M_isOpen_22 (by decide) (fun c4 => ?_) (fun c4 => ?_)
    · replace h := h.2 c4
      refine lv_iconst (v := 0) hx hb d_M_isOpen_29 (by decide) ?_
      exact zz_retz cx hw d_M_isOpen_30 (by decide) h
    · replace h := h.1 c4
      refine lv_iconst (v := 1) hx hb d_M_isOpen_25 (by decide) ?_
      refine lv_goto (tgt := 30) hx hb d_M_isOpen_26 (by decide) ?_
      exact zz_retz cx hw d_M_isOpen_30 (by decide) h
set_option maxRecDepth 100000 in
set_option maxHeartbeats 4000000 in
theorem wk_M_findSlots_171 {p : Program} {l : Launch} {e : Env} {s : State} {m : MethodId} {args : Array Value} {below : List Frame} {meth : Method} {c : Code} {A : Nat → Prop} {D : va_G} {cI cZ cL : ClassId} {a : Nat → Nat} (cx : zz_Cx p s m args meth c "GridFillsModel" b_M_findSlots 7 none D zz_cl (zz_ty cI cZ cL) A) (post : zz_St → Prop) {kn7 : Int32 → zz_St → Prop} {kn22 : Int32 → Int32 → zz_St → Prop} (hkn7 : ∀ (x1 : Int32) (u : zz_St) (H : Heap) (locs : List Loc) (ls : Array Slot), zz_Wd D zz_cl A s.heap H locs (gw_M cI cZ cL a u) → lv_has ls 7 [(0, .ref (a 0)), (1, .int x1)] → kn7 x1 u → W p l e (rm_M_findSlots) s m args below meth c H locs 0 0 (MQ below (va_Qv post (zz_B D zz_cl (zz_ty cI cZ cL) (gw_M cI cZ cL a) A) A) args s 0 0 A) (F0 m 7 ls [])) (hkn22 : ∀ (x1 : Int32) (x2 : Int32) (u : zz_St) (H : Heap) (locs : List Loc) (ls : Array Slot), zz_Wd D zz_cl A s.heap H locs (gw_M cI cZ cL a u) → lv_has ls 7 [(0, .ref (a 0)), (1, .int x1), (2, .int x2)] → kn22 x1 x2 u → W p l e (rm_M_findSlots) s m args below meth c H locs 0 0 (MQ below (va_Qv post (zz_B D zz_cl (zz_ty cI cZ cL) (gw_M cI cZ cL a) A) A) args s 0 0 A) (F0 m 22 ls [])) : ∀ (x1 : Int32) (x2 : Int32) (u : zz_St) (H : Heap) (locs : List Loc) (ls : Array Slot), zz_Wd D zz_cl A s.heap H locs (gw_M cI cZ cL a u) → lv_has ls 7 [(0, .ref (a 0)), (1, .int x1), (2, .int x2)] → wp_M_findSlots_171 post kn7 kn22 x1 x2 u → W p l e (rm_M_findSlots) s m args below meth c H locs 0 0 (MQ below (va_Qv post (zz_B D zz_cl (zz_ty cI cZ cL) (gw_M cI cZ cL a) A) A) args s 0 0 A) (F0 m 171 ls []) := by
  intro x1 x2 u H locs ls hw hl h
  unfold wp_M_findSlots_171 at h
  obtain ⟨hx, hb, hr, hml, hown, hts, hlk, hK, hA⟩ := id cx
  refine lv_iinc (v := x2 + 1) (lv' := [(2, .int (x2 + 1)), (0, .ref (a 0)), (1, .int x1)]) hx hb d_M_findSlots_171 hl (k := 2) rfl rfl (by decide) rfl (fun ls hl => ?_)
  refine lv_goto (tgt := 22) hx hb d_M_findSlots_174 (by decide) ?_
  exact hkn22 x1 (x2 + 1) u _ _ _ hw (lv_sub hl [1, 2, 0] rfl) h
set_option maxRecDepth 100000 in
set_option maxHeartbeats 4000000 in
theorem wk_M_findSlots_150 {p : Program} {l : Launch} {e : Env} {s : State} {m : MethodId} {args : Array Value} {below : List Frame} {meth : Method} {c : Code} {A : Nat → Prop} {D : va_G} {cI cZ cL : ClassId} {a : Nat → Nat} (cx : zz_Cx p s m args meth c "GridFillsModel" b_M_findSlots 7 none D zz_cl (zz_ty cI cZ cL) A) (post : zz_St → Prop) {kn7 : Int32 → zz_St → Prop} {kn22 : Int32 → Int32 → zz_St → Prop} (hkn7 : ∀ (x1 : Int32) (u : zz_St) (H : Heap) (locs : List Loc) (ls : Array Slot), zz_Wd D zz_cl A s.heap H locs (gw_M cI cZ cL a u) → lv_has ls 7 [(0, .ref (a 0)), (1, .int x1)] → kn7 x1 u → W p l e (rm_M_findSlots) s m args below meth c H locs 0 0 (MQ below (va_Qv post (zz_B D zz_cl (zz_ty cI cZ cL) (gw_M cI cZ cL a) A) A) args s 0 0 A) (F0 m 7 ls [])) (hkn22 : ∀ (x1 : Int32) (x2 : Int32) (u : zz_St) (H : Heap) (locs : List Loc) (ls : Array Slot), zz_Wd D zz_cl A s.heap H locs (gw_M cI cZ cL a u) → lv_has ls 7 [(0, .ref (a 0)), (1, .int x1), (2, .int x2)] → kn22 x1 x2 u → W p l e (rm_M_findSlots) s m args below meth c H locs 0 0 (MQ below (va_Qv post (zz_B D zz_cl (zz_ty cI cZ cL) (gw_M cI cZ cL a) A) A) args s 0 0 A) (F0 m 22 ls [])) : ∀ (x1 : Int32) (x2 : Int32) (y0 : Int32) (y1 : Int32) (u : zz_St) (H : Heap) (locs : List Loc) (ls : Array Slot), zz_Wd D zz_cl A s.heap H locs (gw_M cI cZ cL a u) → lv_has ls 7 [(0, .ref (a 0)), (1, .int x1), (2, .int x2)] → wp_M_findSlots_150 post kn7 kn22 x1 x2 y0 y1 u → W p l e (rm_M_findSlots) s m args below meth c H locs 0 0 (MQ below (va_Qv post (zz_B D zz_cl (zz_ty cI cZ cL) (gw_M cI cZ cL a) A) A) args s 0 0 A) (F0 m 150 ls [.int y0, .int y1, .ref (a 9)]) := by
  intro x1 x2 y0 y1 u H locs ls hw hl h
  unfold wp_M_findSlots_150 at h
  obtain ⟨hx, hb, hr, hml, hown, hts, hlk, hK, hA⟩ := id cx
  obtain ⟨hi, h⟩ := h
  refine zz_iast (ws' := gw_M cI cZ cL a (ss_a u 8 (upd (sg_a u 8) y1.toNatClampNeg y0))) cx hw 9 0 rfl rfl hi rfl (gw_M_a8 _ _ _ _ _ _) d_M_findSlots_150 (fun H locs hw => ?_)
  refine lv_aload_n hx hb d_M_findSlots_151 rfl (lv_at hl 0 rfl) ?_
  refine zz_get (v2 := .ref (a 10)) cx hw in_M 0 rfl rfl 15 (by decide) kw_313 rfl rfl d_M_findSlots_152 ?_
  refine lv_aload_n hx hb d_M_findSlots_155 rfl (lv_at hl 0 rfl) ?_
  refine zz_get (v2 := .int (sg_i u 5)) cx hw in_M 0 rfl rfl 11 (by decide) kw_304 rfl (congrArg Value.int (sx_ia _ _ _ _)) d_M_findSlots_156 ?_
  refine lv_iconst (v := (-1)) hx hb d_M_findSlots_159 (by decide) ?_
  obtain ⟨hi, h⟩ := h
  refine zz_iast (ws' := gw_M cI cZ cL a (ss_a (ss_a u 8 (upd (sg_a u 8) y1.toNatClampNeg y0)) 9 (upd (sg_a u 9) (sg_i u 5).toNatClampNeg (-1)))) cx hw 10 0 rfl rfl hi (sy_a _ _ (by decide)) (gw_M_a9 _ _ _ _ _ _) d_M_findSlots_160 (fun H locs hw => ?_)
  refine lv_aload_n hx hb d_M_findSlots_161 rfl (lv_at hl 0 rfl) ?_
  refine lv_dup hx hb d_M_findSlots_162 rfl ?_
  refine zz_get (v2 := .int (sg_i u 5)) cx hw in_M 0 rfl rfl 11 (by decide) kw_304 rfl (congrArg Value.int ((sx_ia _ _ _ _).trans (sx_ia _ _ _ _))) d_M_findSlots_163 ?_
  refine lv_iconst (v := 1) hx hb d_M_findSlots_166 (by decide) ?_
  refine lv_iadd hx hb d_M_findSlots_167 ?_
  refine lv_topi (fun v15 ev15 => ?_)
  replace h := h v15 ev15
  refine zz_put (v := .int v15) (ws' := gw_M cI cZ cL a (ss_i (ss_a (ss_a u 8 (upd (sg_a u 8) y1.toNatClampNeg y0)) 9 (upd (sg_a u 9) (sg_i u 5).toNatClampNeg (-1))) 5 v15)) cx hw in_M ty_M tk_M nm_M 0 rfl rfl 11 (by decide) kw_304 rfl ⟨rfl, rfl⟩ (Nat.le_of_ble_eq_true rfl) (gw_M_i5 _ _ _ _ _ _) d_M_findSlots_168 (fun H locs hw => ?_)
  exact wk_M_findSlots_171 cx post hkn7 hkn22 x1 x2 (ss_i (ss_a (ss_a u 8 (upd (sg_a u 8) y1.toNatClampNeg y0)) 9 (upd (sg_a u 9) (sg_i u 5).toNatClampNeg (-1))) 5 v15) _ _ _ hw (lv_sub hl [0, 1, 2] rfl) h
set_option maxRecDepth 100000 in
set_option maxHeartbeats 4000000 in
theorem wk_M_findSlots_58 {p : Program} {l : Launch} {e : Env} {s : State} {m : MethodId} {args : Array Value} {below : List Frame} {meth : Method} {c : Code} {A : Nat → Prop} {D : va_G} {cI cZ cL : ClassId} {a : Nat → Nat} (cx : zz_Cx p s m args meth c "GridFillsModel" b_M_findSlots 7 none D zz_cl (zz_ty cI cZ cL) A) (post : zz_St → Prop) {kn7 : Int32 → zz_St → Prop} {kn22 : Int32 → Int32 → zz_St → Prop} {kn58 : Int32 → Int32 → Int32 → Int32 → Int32 → Int32 → zz_St → Prop} (hkn7 : ∀ (x1 : Int32) (u : zz_St) (H : Heap) (locs : List Loc) (ls : Array Slot), zz_Wd D zz_cl A s.heap H locs (gw_M cI cZ cL a u) → lv_has ls 7 [(0, .ref (a 0)), (1, .int x1)] → kn7 x1 u → W p l e (rm_M_findSlots) s m args below meth c H locs 0 0 (MQ below (va_Qv post (zz_B D zz_cl (zz_ty cI cZ cL) (gw_M cI cZ cL a) A) A) args s 0 0 A) (F0 m 7 ls [])) (hkn22 : ∀ (x1 : Int32) (x2 : Int32) (u : zz_St) (H : Heap) (locs : List Loc) (ls : Array Slot), zz_Wd D zz_cl A s.heap H locs (gw_M cI cZ cL a u) → lv_has ls 7 [(0, .ref (a 0)), (1, .int x1), (2, .int x2)] → kn22 x1 x2 u → W p l e (rm_M_findSlots) s m args below meth c H locs 0 0 (MQ below (va_Qv post (zz_B D zz_cl (zz_ty cI cZ cL) (gw_M cI cZ cL a) A) A) args s 0 0 A) (F0 m 22 ls [])) (hkn58 : ∀ (x1 : Int32) (x2 : Int32) (x3 : Int32) (x4 : Int32) (x5 : Int32) (x6 : Int32) (u : zz_St) (H : Heap) (locs : List Loc) (ls : Array Slot), zz_Wd D zz_cl A s.heap H locs (gw_M cI cZ cL a u) → lv_has ls 7 [(0, .ref (a 0)), (1, .int x1), (2, .int x2), (3, .int x3), (4, .int x4), (5, .int x5), (6, .int x6)] → kn58 x1 x2 x3 x4 x5 x6 u → W p l e (rm_M_findSlots) s m args below meth c H locs 0 0 (MQ below (va_Qv post (zz_B D zz_cl (zz_ty cI cZ cL) (gw_M cI cZ cL a) A) A) args s 0 0 A) (F0 m 58 ls [])) : ∀ (x1 : Int32) (x2 : Int32) (x3 : Int32) (x4 : Int32) (x5 : Int32) (x6 : Int32) (u : zz_St) (H : Heap) (locs : List Loc) (ls : Array Slot), zz_Wd D zz_cl A s.heap H locs (gw_M cI cZ cL a u) → lv_has ls 7 [(0, .ref (a 0)), (1, .int x1), (2, .int x2), (3, .int x3), (4, .int x4), (5, .int x5), (6, .int x6)] → wp_M_findSlots_58 post kn7 kn22 kn58 x1 x2 x3 x4 x5 x6 u → W p l e (rm_M_findSlots) s m args below meth c H locs 0 0 (MQ below (va_Qv post (zz_B D zz_cl (zz_ty cI cZ cL) (gw_M cI cZ cL a) A) A) args s 0 0 A) (F0 m 58 ls []) := by
  intro x1 x2 x3 x4 x5 x6 u H locs ls hw hl h
  unfold wp_M_findSlots_58 at h
  obtain ⟨hx, hb, hr, hml, hown, hts, hlk, hK, hA⟩ := id cx
  refine lv_aload_n hx hb d_M_findSlots_58 rfl (lv_at hl 0 rfl) ?_
  refine lv_iload_n hx hb d_M_findSlots_59 rfl (lv_at hl 3 rfl) ?_
  refine lv_iload hx hb d_M_findSlots_60 (lv_at hl 6 rfl) ?_
  refine lv_iload hx hb d_M_findSlots_62 (lv_at hl 5 rfl) ?_
  refine lv_imul hx hb d_M_findSlots_64 ?_
  refine lv_iadd hx hb d_M_findSlots_65 ?_
  refine lv_iload hx hb d_M_findSlots_66 (lv_at hl 4 rfl) ?_
  refine lv_iload hx hb d_M_findSlots_68 (lv_at hl 6 rfl) ?_
  refine lv_iload_n hx hb d_M_findSlots_70 rfl (lv_at hl 1 rfl) ?_
  refine lv_imul hx hb d_M_findSlots_71 ?_
  refine lv_iadd hx hb d_M_findSlots_72 ?_
  refine zz_callVi (As := [.int (x3 + (x6 * x5)), .int (x4 + (x6 * x1))]) (rest := []) cx hw (ct_M_isOpen l D cI cZ cL a h) (zz_gV kw_309 kw_311 kw_312 kw_301 kw_310) hd_M_isOpen ⟨rfl, rfl⟩ ⟨Nat.le_of_ble_eq_true rfl, Nat.le_of_ble_eq_true rfl⟩ 0 rfl rfl rfl rfl hl.1 rfl (Nat.le_of_ble_eq_true rfl) d_M_findSlots_73 (fun r8 s7 H locs h hw => ?_)
  refine lv_if_eq (tgt := 85) hx hb d_M_findSlots_76 (by decide) (fun c9 => ?_) (fun c9 => ?_)
  · replace h := h.1 c9
    refine lv_iload hx hb d_M_findSlots_85 (lv_at hl 6 rfl) ?_
    refine lv_iconst (v := 2) hx hb d_M_findSlots_87 (by decide) ?_
    refine lv_icmp_lt (tgt := 171) hx hb d_M_findSlots_88 (by decide) (fun c10 => ?_) (fun c10 => ?_)
    · replace h := h.1 c10
      exact wk_M_findSlots_171 cx post hkn7 hkn22 x1 x2 s7 _ _ _ hw (lv_sub hl [0, 1, 2] rfl) h
    · replace h := h.2 c10
      refine lv_aload_n hx hb d_M_findSlots_91 rfl (lv_at hl 0 rfl) ?_
      refine lv_iload_n hx hb d_M_findSlots_92 rfl (lv_at hl 3 rfl) ?_
      refine lv_iload hx hb d_M_findSlots_93 (lv_at hl 5 rfl) ?_
      refine lv_isub hx hb d_M_findSlots_95 ?_
      refine lv_iload hx hb d_M_findSlots_96 (lv_at hl 4 rfl) ?_
      refine lv_iload_n hx hb d_M_findSlots_98 rfl (lv_at hl 1 rfl) ?_
      refine lv_isub hx hb d_M_findSlots_99 ?_
      refine zz_callVi (As := [.int (x3 - x5), .int (x4 - x1)]) (rest := []) cx hw (ct_M_isOpen l D cI cZ cL a h) (zz_gV kw_309 kw_311 kw_312 kw_301 kw_310) hd_M_isOpen ⟨rfl, rfl⟩ ⟨Nat.le_of_ble_eq_true rfl, Nat.le_of_ble_eq_true rfl⟩ 0 rfl rfl rfl rfl hl.1 rfl (Nat.le_of_ble_eq_true rfl) d_M_findSlots_100 (fun r12 s11 H locs h hw => ?_)
      refine lv_if_eq (tgt := 109) hx hb d_M_findSlots_103 (by decide) (fun c13 => ?_) (fun c13 => ?_)
      · replace h := h.1 c13
        refine lv_aload_n hx hb d_M_findSlots_109 rfl (lv_at hl 0 rfl) ?_
        refine zz_get (v2 := .ref (a 7)) cx hw in_M 0 rfl rfl 12 (by decide) kw_306 rfl rfl d_M_findSlots_110 ?_
        refine lv_aload_n hx hb d_M_findSlots_113 rfl (lv_at hl 0 rfl) ?_
        refine zz_get (v2 := .int (sg_i s11 5)) cx hw in_M 0 rfl rfl 11 (by decide) kw_304 rfl rfl d_M_findSlots_114 ?_
        refine lv_iload_n hx hb d_M_findSlots_117 rfl (lv_at hl 2 rfl) ?_
        obtain ⟨hi, h⟩ := h
        refine zz_iast (ws' := gw_M cI cZ cL a (ss_a s11 6 (upd (sg_a s11 6) (sg_i s11 5).toNatClampNeg x2))) cx hw 7 0 rfl rfl hi rfl (gw_M_a6 _ _ _ _ _ _) d_M_findSlots_118 (fun H locs hw => ?_)
        refine lv_aload_n hx hb d_M_findSlots_119 rfl (lv_at hl 0 rfl) ?_
        refine zz_get (v2 := .ref (a 8)) cx hw in_M 0 rfl rfl 13 (by decide) kw_307 rfl rfl d_M_findSlots_120 ?_
        refine lv_aload_n hx hb d_M_findSlots_123 rfl (lv_at hl 0 rfl) ?_
        refine zz_get (v2 := .int (sg_i s11 5)) cx hw in_M 0 rfl rfl 11 (by decide) kw_304 rfl (congrArg Value.int (sx_ia _ _ _ _)) d_M_findSlots_124 ?_
        refine lv_iload hx hb d_M_findSlots_127 (lv_at hl 6 rfl) ?_
        obtain ⟨hi, h⟩ := h
        refine zz_iast (ws' := gw_M cI cZ cL a (ss_a (ss_a s11 6 (upd (sg_a s11 6) (sg_i s11 5).toNatClampNeg x2)) 7 (upd (sg_a s11 7) (sg_i s11 5).toNatClampNeg x6))) cx hw 8 0 rfl rfl hi (sy_a _ _ (by decide)) (gw_M_a7 _ _ _ _ _ _) d_M_findSlots_129 (fun H locs hw => ?_)
        refine lv_aload_n hx hb d_M_findSlots_130 rfl (lv_at hl 0 rfl) ?_
        refine zz_get (v2 := .ref (a 9)) cx hw in_M 0 rfl rfl 14 (by decide) kw_308 rfl rfl d_M_findSlots_131 ?_
        refine lv_aload_n hx hb d_M_findSlots_134 rfl (lv_at hl 0 rfl) ?_
        refine zz_get (v2 := .int (sg_i s11 5)) cx hw in_M 0 rfl rfl 11 (by decide) kw_304 rfl (congrArg Value.int ((sx_ia _ _ _ _).trans (sx_ia _ _ _ _))) d_M_findSlots_135 ?_
        refine lv_iload_n hx hb d_M_findSlots_138 rfl (lv_at hl 1 rfl) ?_
        refine lv_if_ne (tgt := 146) hx hb d_M_findSlots_139 (by decide) (fun c14 => ?_) (fun c14 => ?_)
        · replace h := h.2 c14
          refine lv_aload_n hx hb d_M_findSlots_146 rfl (lv_at hl 0 rfl) ?_
          refine zz_get (v2 := .int (sg_i s11 1)) cx hw in_M 0 rfl rfl 1 (by decide) kw_296 rfl (congrArg Value.int ((sx_ia _ _ _ _).trans (sx_ia _ _ _ _))) d_M_findSlots_147 ?_
          exact wk_M_findSlots_150 cx post hkn7 hkn22 x1 x2 (sg_i s11 1) (sg_i s11 5) (ss_a (ss_a s11 6 (upd (sg_a s11 6) (sg_i s11 5).toNatClampNeg x2)) 7 (upd (sg_a s11 7) (sg_i s11 5).toNatClampNeg x6)) _ _ _ hw (lv_sub hl [0, 1, 2] rfl) h
        · replace h := h.1 c14
          refine lv_iconst (v := 1) hx hb d_M_findSlots_142 (by decide) ?_
          refine lv_goto (tgt := 150) hx hb d_M_findSlots_143 (by decide) ?_
          exact wk_M_findSlots_150 cx post hkn7 hkn22 x1 x2 1 (sg_i s11 5) (ss_a (ss_a s11 6 (upd (sg_a s11 6) (sg_i s11 5).toNatClampNeg x2)) 7 (upd (sg_a s11 7) (sg_i s11 5).toNatClampNeg x6)) _ _ _ hw (lv_sub hl [0, 1, 2] rfl) h
      · replace h := h.2 c13
        refine lv_goto (tgt := 171) hx hb d_M_findSlots_106 (by decide) ?_
        exact wk_M_findSlots_171 cx post hkn7 hkn22 x1 x2 s11 _ _ _ hw (lv_sub hl [0, 1, 2] rfl) h
  · replace h := h.2 c9
    refine lv_iinc (v := x6 + 1) (lv' := [(6, .int (x6 + 1)), (0, .ref (a 0)), (1, .int x1), (2, .int x2), (3, .int x3), (4, .int x4), (5, .int x5)]) hx hb d_M_findSlots_79 hl (k := 6) rfl rfl (by decide) rfl (fun ls hl => ?_)
    refine lv_goto (tgt := 58) hx hb d_M_findSlots_82 (by decide) ?_
    exact hkn58 x1 x2 x3 x4 x5 (x6 + 1) s7 _ _ _ hw (lv_sub hl [1, 2, 3, 4, 5, 6, 0] rfl) h
set_option maxRecDepth 100000 in
set_option maxHeartbeats 4000000 in
theorem wk_M_findSlots_58_f {p : Program} {l : Launch} {e : Env} {s : State} {m : MethodId} {args : Array Value} {below : List Frame} {meth : Method} {c : Code} {A : Nat → Prop} {D : va_G} {cI cZ cL : ClassId} {a : Nat → Nat} (cx : zz_Cx p s m args meth c "GridFillsModel" b_M_findSlots 7 none D zz_cl (zz_ty cI cZ cL) A) (post : zz_St → Prop) {kn7 : Int32 → zz_St → Prop} {kn22 : Int32 → Int32 → zz_St → Prop} (hkn7 : ∀ (x1 : Int32) (u : zz_St) (H : Heap) (locs : List Loc) (ls : Array Slot), zz_Wd D zz_cl A s.heap H locs (gw_M cI cZ cL a u) → lv_has ls 7 [(0, .ref (a 0)), (1, .int x1)] → kn7 x1 u → W p l e (rm_M_findSlots) s m args below meth c H locs 0 0 (MQ below (va_Qv post (zz_B D zz_cl (zz_ty cI cZ cL) (gw_M cI cZ cL a) A) A) args s 0 0 A) (F0 m 7 ls [])) (hkn22 : ∀ (x1 : Int32) (x2 : Int32) (u : zz_St) (H : Heap) (locs : List Loc) (ls : Array Slot), zz_Wd D zz_cl A s.heap H locs (gw_M cI cZ cL a u) → lv_has ls 7 [(0, .ref (a 0)), (1, .int x1), (2, .int x2)] → kn22 x1 x2 u → W p l e (rm_M_findSlots) s m args below meth c H locs 0 0 (MQ below (va_Qv post (zz_B D zz_cl (zz_ty cI cZ cL) (gw_M cI cZ cL a) A) A) args s 0 0 A) (F0 m 22 ls [])) : ∀ n : Nat, ∀ (x1 : Int32) (x2 : Int32) (x3 : Int32) (x4 : Int32) (x5 : Int32) (x6 : Int32) (u : zz_St) (H : Heap) (locs : List Loc) (ls : Array Slot), zz_Wd D zz_cl A s.heap H locs (gw_M cI cZ cL a u) → lv_has ls 7 [(0, .ref (a 0)), (1, .int x1), (2, .int x2), (3, .int x3), (4, .int x4), (5, .int x5), (6, .int x6)] → wp_M_findSlots_58_f post kn7 kn22 n x1 x2 x3 x4 x5 x6 u → W p l e (rm_M_findSlots) s m args below meth c H locs 0 0 (MQ below (va_Qv post (zz_B D zz_cl (zz_ty cI cZ cL) (gw_M cI cZ cL a) A) A) args s 0 0 A) (F0 m 58 ls []) := by
  intro n
  induction n with
  | zero => exact fun _ _ _ _ _ _ _ _ _ _ _ _ h => False.elim h
  | succ n ih => exact wk_M_findSlots_58 cx post hkn7 hkn22 ih
set_option maxRecDepth 100000 in
set_option maxHeartbeats 4000000 in
theorem wk_M_findSlots_22 {p : Program} {l : Launch} {e : Env} {s : State} {m : MethodId} {args : Array Value} {below : List Frame} {meth : Method} {c : Code} {A : Nat → Prop} {D : va_G} {cI cZ cL : ClassId} {a : Nat → Nat} (cx : zz_Cx p s m args meth c "GridFillsModel" b_M_findSlots 7 none D zz_cl (zz_ty cI cZ cL) A) (post : zz_St → Prop) {kn7 : Int32 → zz_St → Prop} {kn22 : Int32 → Int32 → zz_St → Prop} (hkn7 : ∀ (x1 : Int32) (u : zz_St) (H : Heap) (locs : List Loc) (ls : Array Slot), zz_Wd D zz_cl A s.heap H locs (gw_M cI cZ cL a u) → lv_has ls 7 [(0, .ref (a 0)), (1, .int x1)] → kn7 x1 u → W p l e (rm_M_findSlots) s m args below meth c H locs 0 0 (MQ below (va_Qv post (zz_B D zz_cl (zz_ty cI cZ cL) (gw_M cI cZ cL a) A) A) args s 0 0 A) (F0 m 7 ls [])) (hkn22 : ∀ (x1 : Int32) (x2 : Int32) (u : zz_St) (H : Heap) (locs : List Loc) (ls : Array Slot), zz_Wd D zz_cl A s.heap H locs (gw_M cI cZ cL a u) → lv_has ls 7 [(0, .ref (a 0)), (1, .int x1), (2, .int x2)] → kn22 x1 x2 u → W p l e (rm_M_findSlots) s m args below meth c H locs 0 0 (MQ below (va_Qv post (zz_B D zz_cl (zz_ty cI cZ cL) (gw_M cI cZ cL a) A) A) args s 0 0 A) (F0 m 22 ls [])) : ∀ (x1 : Int32) (x2 : Int32) (u : zz_St) (H : Heap) (locs : List Loc) (ls : Array Slot), zz_Wd D zz_cl A s.heap H locs (gw_M cI cZ cL a u) → lv_has ls 7 [(0, .ref (a 0)), (1, .int x1), (2, .int x2)] → wp_M_findSlots_22 post kn7 kn22 x1 x2 u → W p l e (rm_M_findSlots) s m args below meth c H locs 0 0 (MQ below (va_Qv post (zz_B D zz_cl (zz_ty cI cZ cL) (gw_M cI cZ cL a) A) A) args s 0 0 A) (F0 m 22 ls []) := by
  intro x1 x2 u H locs ls hw hl h
  unfold wp_M_findSlots_22 at h
  obtain ⟨hx, hb, hr, hml, hown, hts, hlk, hK, hA⟩ := id cx
  refine lv_iload_n hx hb d_M_findSlots_22 rfl (lv_at hl 2 rfl) ?_
  refine lv_aload_n hx hb d_M_findSlots_23 rfl (lv_at hl 0 rfl) ?_
  refine zz_get (v2 := .int (sg_i u 1)) cx hw in_M 0 rfl rfl 1 (by decide) kw_296 rfl rfl d_M_findSlots_24 ?_
  refine lv_aload_n hx hb d_M_findSlots_27 rfl (lv_at hl 0 rfl) ?_
  refine zz_get (v2 := .int (sg_i u 2)) cx hw in_M 0 rfl rfl 2 (by decide) kw_297 rfl rfl d_M_findSlots_28 ?_
  refine lv_imul hx hb d_M_findSlots_31 ?_
  refine lv_icmp_ge (tgt := 177) hx hb d_M_findSlots_32 (by decide) (fun c3 => ?_) (fun c3 => ?_)
  · replace h := h.1 c3
    refine lv_iinc (v := x1 + 1) (lv' := [(1, .int (x1 + 1)), (0, .ref (a 0)), (2, .int x2)]) hx hb d_M_findSlots_177 hl (k := 1) rfl rfl (by decide) rfl (fun ls hl => ?_)
    refine lv_goto (tgt := 7) hx hb d_M_findSlots_180 (by decide) ?_
    exact hkn7 (x1 + 1) u _ _ _ hw (lv_sub hl [1, 0] rfl) h
  · replace h := h.2 c3
    refine lv_iload_n hx hb d_M_findSlots_35 rfl (lv_at hl 2 rfl) ?_
    refine lv_aload_n hx hb d_M_findSlots_36 rfl (lv_at hl 0 rfl) ?_
    refine zz_get (v2 := .int (sg_i u 1)) cx hw in_M 0 rfl rfl 1 (by decide) kw_296 rfl rfl d_M_findSlots_37 ?_
    obtain ⟨hi, h⟩ := h
    refine lv_irem hx hb d_M_findSlots_40 hi ?_
    refine lv_topi (fun v4 ev4 => ?_)
    replace h := h v4 ev4
    refine lv_istore_n (lv' := [(3, .int v4), (0, .ref (a 0)), (1, .int x1), (2, .int x2)]) hx hb d_M_findSlots_41 rfl hl (by decide) rfl (fun ls hl => ?_)
    refine lv_iload_n hx hb d_M_findSlots_42 rfl (lv_at hl 3 rfl) ?_
    refine lv_aload_n hx hb d_M_findSlots_43 rfl (lv_at hl 1 rfl) ?_
    refine zz_get (v2 := .int (sg_i u 1)) cx hw in_M 0 rfl rfl 1 (by decide) kw_296 rfl rfl d_M_findSlots_44 ?_
    obtain ⟨hi, h⟩ := h
    refine lv_idiv hx hb d_M_findSlots_47 hi ?_
    refine lv_topi (fun v5 ev5 => ?_)
    replace h := h v5 ev5
    refine lv_istore (lv' := [(4, .int v5), (3, .int v4), (0, .ref (a 0)), (1, .int x1), (2, .int x2)]) hx hb d_M_findSlots_48 hl (by decide) rfl (fun ls hl => ?_)
    refine lv_iconst (v := 1) hx hb d_M_findSlots_50 (by decide) ?_
    refine lv_iload_n hx hb d_M_findSlots_51 rfl (lv_at hl 3 rfl) ?_
    refine lv_isub hx hb d_M_findSlots_52 ?_
    refine lv_topi (fun v6 ev6 => ?_)
    replace h := h v6 ev6
    refine lv_istore (lv' := [(5, .int v6), (4, .int v5), (3, .int v4), (0, .ref (a 0)), (1, .int x1), (2, .int x2)]) hx hb d_M_findSlots_53 hl (by decide) rfl (fun ls hl => ?_)
    refine lv_iconst (v := 0) hx hb d_M_findSlots_55 (by decide) ?_
    refine lv_istore (lv' := [(6, .int 0), (5, .int v6), (4, .int v5), (3, .int v4), (0, .ref (a 0)), (1, .int x1), (2, .int x2)]) hx hb d_M_findSlots_56 hl (by decide) rfl (fun ls hl => ?_)
    obtain ⟨n, h⟩ := h
    exact wk_M_findSlots_58_f cx post hkn7 hkn22 n x1 x2 v4 v5 v6 0 u _ _ _ hw (lv_sub hl [4, 5, 6, 3, 2, 1, 0] rfl) h
set_option maxRecDepth 100000 in
set_option maxHeartbeats 4000000 in
theorem wk_M_findSlots_22_f {p : Program} {l : Launch} {e : Env} {s : State} {m : MethodId} {args : Array Value} {below : List Frame} {meth : Method} {c : Code} {A : Nat → Prop} {D : va_G} {cI cZ cL : ClassId} {a : Nat → Nat} (cx : zz_Cx p s m args meth c "GridFillsModel" b_M_findSlots 7 none D zz_cl (zz_ty cI cZ cL) A) (post : zz_St → Prop) {kn7 : Int32 → zz_St → Prop} (hkn7 : ∀ (x1 : Int32) (u : zz_St) (H : Heap) (locs : List Loc) (ls : Array Slot), zz_Wd D zz_cl A s.heap H locs (gw_M cI cZ cL a u) → lv_has ls 7 [(0, .ref (a 0)), (1, .int x1)] → kn7 x1 u → W p l e (rm_M_findSlots) s m args below meth c H locs 0 0 (MQ below (va_Qv post (zz_B D zz_cl (zz_ty cI cZ cL) (gw_M cI cZ cL a) A) A) args s 0 0 A) (F0 m 7 ls [])) : ∀ n : Nat, ∀ (x1 : Int32) (x2 : Int32) (u : zz_St) (H : Heap) (locs : List Loc) (ls : Array Slot), zz_Wd D zz_cl A s.heap H locs (gw_M cI cZ cL a u) → lv_has ls 7 [(0, .ref (a 0)), (1, .int x1), (2, .int x2)] → wp_M_findSlots_22_f post kn7 n x1 x2 u → W p l e (rm_M_findSlots) s m args below meth c H locs 0 0 (MQ below (va_Qv post (zz_B D zz_cl (zz_ty cI cZ cL) (gw_M cI cZ cL a) A) A) args s 0 0 A) (F0 m 22 ls []) := by
  intro n
  induction n with
  | zero => exact fun _ _ _ _ _ _ _ _ h => False.elim h
  | succ n ih => exact wk_M_findSlots_22 cx post hkn7 ih
set_option maxRecDepth 100000 in
set_option maxHeartbeats 4000000 in
theorem wk_M_findSlots_7 {p : Program} {l : Launch} {e : Env} {s : State} {m : MethodId} {args : Array Value} {below : List Frame} {meth : Method} {c : Code} {A : Nat → Prop} {D : va_G} {cI cZ cL : ClassId} {a : Nat → Nat} (cx : zz_Cx p s m args meth c "GridFillsModel" b_M_findSlots 7 none D zz_cl (zz_ty cI cZ cL) A) (post : zz_St → Prop) {kn7 : Int32 → zz_St → Prop} (hkn7 : ∀ (x1 : Int32) (u : zz_St) (H : Heap) (locs : List Loc) (ls : Array Slot), zz_Wd D zz_cl A s.heap H locs (gw_M cI cZ cL a u) → lv_has ls 7 [(0, .ref (a 0)), (1, .int x1)] → kn7 x1 u → W p l e (rm_M_findSlots) s m args below meth c H locs 0 0 (MQ below (va_Qv post (zz_B D zz_cl (zz_ty cI cZ cL) (gw_M cI cZ cL a) A) A) args s 0 0 A) (F0 m 7 ls [])) : ∀ (x1 : Int32) (u : zz_St) (H : Heap) (locs : List Loc) (ls : Array Slot), zz_Wd D zz_cl A s.heap H locs (gw_M cI cZ cL a u) → lv_has ls 7 [(0, .ref (a 0)), (1, .int x1)] → wp_M_findSlots_7 post kn7 x1 u → W p l e (rm_M_findSlots) s m args below meth c H locs 0 0 (MQ below (va_Qv post (zz_B D zz_cl (zz_ty cI cZ cL) (gw_M cI cZ cL a) A) A) args s 0 0 A) (F0 m 7 ls []) := by
  intro x1 u H locs ls hw hl h
  unfold wp_M_findSlots_7 at h
  obtain ⟨hx, hb, hr, hml, hown, hts, hlk, hK, hA⟩ := id cx
  refine lv_iload_n hx hb d_M_findSlots_7 rfl (lv_at hl 1 rfl) ?_
  refine lv_iconst (v := 2) hx hb d_M_findSlots_8 (by decide) ?_
  refine lv_icmp_ge (tgt := 183) hx hb d_M_findSlots_9 (by decide) (fun c1 => ?_) (fun c1 => ?_)
  · replace h := h.1 c1
    exact zz_retv cx hw d_M_findSlots_183 h
  · replace h := h.2 c1
    refine lv_aload_n hx hb d_M_findSlots_12 rfl (lv_at hl 0 rfl) ?_
    refine lv_aload_n hx hb d_M_findSlots_13 rfl (lv_at hl 0 rfl) ?_
    refine zz_get (v2 := .int (sg_i u 5)) cx hw in_M 0 rfl rfl 11 (by decide) kw_304 rfl rfl d_M_findSlots_14 ?_
    refine lv_topi (fun v2 ev2 => ?_)
    replace h := h v2 ev2
    refine zz_put (v := .int v2) (ws' := gw_M cI cZ cL a (ss_i u 6 v2)) cx hw in_M ty_M tk_M nm_M 0 rfl rfl 16 (by decide) kw_305 rfl ⟨rfl, rfl⟩ (Nat.le_of_ble_eq_true rfl) (gw_M_i6 _ _ _ _ _ _) d_M_findSlots_17 (fun H locs hw => ?_)
    refine lv_iconst (v := 0) hx hb d_M_findSlots_20 (by decide) ?_
    refine lv_istore_n (lv' := [(2, .int 0), (0, .ref (a 0)), (1, .int x1)]) hx hb d_M_findSlots_21 rfl hl (by decide) rfl (fun ls hl => ?_)
    obtain ⟨n, h⟩ := h
    exact wk_M_findSlots_22_f cx post hkn7 n x1 0 (ss_i u 6 v2) _ _ _ hw (lv_sub hl [1, 2, 0] rfl) h
set_option maxRecDepth 100000 in
set_option maxHeartbeats 4000000 in
theorem wk_M_findSlots_7_f {p : Program} {l : Launch} {e : Env} {s : State} {m : MethodId} {args : Array Value} {below : List Frame} {meth : Method} {c : Code} {A : Nat → Prop} {D : va_G} {cI cZ cL : ClassId} {a : Nat → Nat} (cx : zz_Cx p s m args meth c "GridFillsModel" b_M_findSlots 7 none D zz_cl (zz_ty cI cZ cL) A) (post : zz_St → Prop) : ∀ n : Nat, ∀ (x1 : Int32) (u : zz_St) (H : Heap) (locs : List Loc) (ls : Array Slot), zz_Wd D zz_cl A s.heap H locs (gw_M cI cZ cL a u) → lv_has ls 7 [(0, .ref (a 0)), (1, .int x1)] → wp_M_findSlots_7_f post n x1 u → W p l e (rm_M_findSlots) s m args below meth c H locs 0 0 (MQ below (va_Qv post (zz_B D zz_cl (zz_ty cI cZ cL) (gw_M cI cZ cL a) A) A) args s 0 0 A) (F0 m 7 ls []) := by
  intro n
  induction n with
  | zero => exact fun _ _ _ _ _ _ _ h => False.elim h
  | succ n ih => exact wk_M_findSlots_7 cx post ih
set_option maxRecDepth 100000 in
set_option maxHeartbeats 4000000 in
theorem ct_M_findSlots (l : Launch) (D : va_G) (cI cZ cL : ClassId) (a : Nat → Nat) {u : zz_St} {post : zz_St → Prop} (h : wp_M_findSlots  u post) : zz_MV l y_M_findSlots (.code y_M_findSlots b_M_findSlots 7 none :: zz_tbl) (rm_M_findSlots) D zz_cl (zz_ty cI cZ cL) (gw_M cI cZ cL a) [.ref (a 0)] u post := by
  unfold wp_M_findSlots at h
  refine zz_ofV (by decide) (Nat.le_of_ble_eq_true rfl) ?_
  intro p e s m below meth c A cx hw ls hl
  obtain ⟨hx, hb, hr, hml, hown, hts, hlk, hK, hA⟩ := id cx
  refine lv_aload_n hx hb d_M_findSlots_0 rfl (lv_at hl 0 rfl) ?_
  refine lv_iconst (v := 0) hx hb d_M_findSlots_1 (by decide) ?_
  refine zz_put (v := .int 0) (ws' := gw_M cI cZ cL a (ss_i u 5 0)) cx hw in_M ty_M tk_M nm_M 0 rfl rfl 11 (by decide) kw_304 rfl ⟨rfl, rfl⟩ (Nat.le_of_ble_eq_true rfl) (gw_M_i5 _ _ _ _ _ _) d_M_findSlots_2 (fun H locs hw => ?_)
  refine lv_iconst (v := 0) hx hb d_M_findSlots_5 (by decide) ?_
  refine lv_istore_n (lv' := [(1, .int 0), (0, .ref (a 0))]) hx hb d_M_findSlots_6 rfl hl (by decide) rfl (fun ls hl => ?_)
  obtain ⟨n, h⟩ := h
  exact wk_M_findSlots_7_f cx post  n 0 (ss_i u 5 0) _ _ _ hw (lv_sub hl [1, 0] rfl) h
set_option maxRecDepth 100000 in
set_option maxHeartbeats 4000000 in
theorem wk_M_black_50 {p : Program} {l : Launch} {e : Env} {s : State} {m : MethodId} {args : Array Value} {below : List Frame} {meth : Method} {c : Code} {A : Nat → Prop} {D : va_G} {cI cZ cL : ClassId} {a : Nat → Nat} (cx : zz_Cx p s m args meth c "GridFillsModel" b_M_black 5 (some .boolean) D zz_cl (zz_ty cI cZ cL) A) (post : Int32 → zz_St → Prop) {kn50 : Int32 → zz_St → Prop} (hkn50 : ∀ (x4 : Int32) (u : zz_St) (H : Heap) (locs : List Loc) (ls : Array Slot), zz_Wd D zz_cl A s.heap H locs (gw_M cI cZ cL a u) → lv_has ls 5 [(0, .ref (a 0)), (4, .int x4)] → kn50 x4 u → W p l e (rm_M_black) s m args below meth c H locs 0 0 (MQ below (va_Qi post (zz_B D zz_cl (zz_ty cI cZ cL) (gw_M cI cZ cL a) A) A) args s 0 0 A) (F0 m 50 ls [])) : ∀ (x4 : Int32) (u : zz_St) (H : Heap) (locs : List Loc) (ls : Array Slot), zz_Wd D zz_cl A s.heap H locs (gw_M cI cZ cL a u) → lv_has ls 5 [(0, .ref (a 0)), (4, .int x4)] → wp_M_black_50 post kn50 x4 u → W p l e (rm_M_black) s m args below meth c H locs 0 0 (MQ below (va_Qi post (zz_B D zz_cl (zz_ty cI cZ cL) (gw_M cI cZ cL a) A) A) args s 0 0 A) (F0 m 50 ls []) := by
  intro x4 u H locs ls hw hl h
  unfold wp_M_black_50 at h
  obtain ⟨hx, hb, hr, hml, hown, hts, hlk, hK, hA⟩ := id cx
  refine lv_iload hx hb d_M_black_50 (lv_at hl 1 rfl) ?_
  refine lv_bipush (v := 36) hx hb d_M_black_52 (by decide) ?_
  refine lv_icmp_ge (tgt := 71) hx hb d_M_black_54 (by decide) (fun c5 => ?_) (fun c5 => ?_)
  · replace h := h.1 c5
    refine lv_aload_n hx hb d_M_black_71 rfl (lv_at hl 0 rfl) ?_
    refine lv_iconst (v := 0) hx hb d_M_black_72 (by decide) ?_
    refine zz_put (v := .int 0) (ws' := gw_M cI cZ cL a (ss_i u 7 0)) cx hw in_M ty_M tk_M nm_M 0 rfl rfl 19 (by decide) kw_319 rfl ⟨rfl, rfl⟩ (Nat.le_of_ble_eq_true rfl) (gw_M_i7 _ _ _ _ _ _) d_M_black_73 (fun H locs hw => ?_)
    refine lv_aload_n hx hb d_M_black_76 rfl (lv_at hl 0 rfl) ?_
    refine zz_callVv (As := []) (rest := []) cx hw (ct_M_findSlots l D cI cZ cL a h) (zz_gV kw_315 kw_317 kw_318 kw_301 kw_316) hd_M_findSlots ⟨rfl, rfl⟩ ⟨Nat.le_of_ble_eq_true rfl, Nat.le_of_ble_eq_true rfl⟩ 0 rfl rfl rfl rfl hl.1 rfl (Nat.le_of_ble_eq_true rfl) d_M_black_77 (fun s6 H locs h hw => ?_)
    refine lv_iconst (v := 1) hx hb d_M_black_80 (by decide) ?_
    exact zz_retz cx hw d_M_black_81 (by decide) h
  · replace h := h.2 c5
    refine lv_aload_n hx hb d_M_black_57 rfl (lv_at hl 0 rfl) ?_
    refine zz_get (v2 := .ref (a 2)) cx hw in_M 0 rfl rfl 4 (by decide) kw_320 rfl rfl d_M_black_58 ?_
    refine lv_iload hx hb d_M_black_61 (lv_at hl 1 rfl) ?_
    refine lv_iconst (v := 0) hx hb d_M_black_63 (by decide) ?_
    obtain ⟨hi, h⟩ := h
    refine zz_iast (ws' := gw_M cI cZ cL a (ss_a u 1 (upd (sg_a u 1) x4.toNatClampNeg 0))) cx hw 2 0 rfl rfl hi rfl (gw_M_a1 _ _ _ _ _ _) d_M_black_64 (fun H locs hw => ?_)
    refine lv_iinc (v := x4 + 1) (lv' := [(4, .int (x4 + 1)), (0, .ref (a 0))]) hx hb d_M_black_65 hl (k := 1) rfl rfl (by decide) rfl (fun ls hl => ?_)
    refine lv_goto (tgt := 50) hx hb d_M_black_68 (by decide) ?_
    exact hkn50 (x4 + 1) (ss_a u 1 (upd (sg_a u 1) x4.toNatClampNeg 0)) _ _ _ hw (lv_sub hl [1, 0] rfl) h
set_option maxRecDepth 100000 in
set_option maxHeartbeats 4000000 in
theorem wk_M_black_50_f {p : Program} {l : Launch} {e : Env} {s : State} {m : MethodId} {args : Array Value} {below : List Frame} {meth : Method} {c : Code} {A : Nat → Prop} {D : va_G} {cI cZ cL : ClassId} {a : Nat → Nat} (cx : zz_Cx p s m args meth c "GridFillsModel" b_M_black 5 (some .boolean) D zz_cl (zz_ty cI cZ cL) A) (post : Int32 → zz_St → Prop) : ∀ n : Nat, ∀ (x4 : Int32) (u : zz_St) (H : Heap) (locs : List Loc) (ls : Array Slot), zz_Wd D zz_cl A s.heap H locs (gw_M cI cZ cL a u) → lv_has ls 5 [(0, .ref (a 0)), (4, .int x4)] → wp_M_black_50_f post n x4 u → W p l e (rm_M_black) s m args below meth c H locs 0 0 (MQ below (va_Qi post (zz_B D zz_cl (zz_ty cI cZ cL) (gw_M cI cZ cL a) A) A) args s 0 0 A) (F0 m 50 ls []) := by
  intro n
  induction n with
  | zero => exact fun _ _ _ _ _ _ _ h => False.elim h
  | succ n ih => exact wk_M_black_50 cx post ih
set_option maxRecDepth 100000 in
set_option maxHeartbeats 4000000 in
theorem ct_M_black (l : Launch) (D : va_G) (cI cZ cL : ClassId) (a : Nat → Nat) {a0 : Int32} {a1 : Int32} {a2 : Int32} {u : zz_St} {post : Int32 → zz_St → Prop} (h : wp_M_black  a0 a1 a2 u post) : zz_MI l y_M_black (.code y_M_black b_M_black 5 (some .boolean) :: zz_tbl) (rm_M_black) D zz_cl (zz_ty cI cZ cL) (gw_M cI cZ cL a) [.ref (a 0), .int a0, .int a1, .int a2] u post := by
  unfold wp_M_black at h
  refine zz_ofI (by decide) (Nat.le_of_ble_eq_true rfl) ?_
  intro p e s m below meth c A cx hw ls hl
  obtain ⟨hx, hb, hr, hml, hown, hts, hlk, hK, hA⟩ := id cx
  refine lv_aload_n hx hb d_M_black_0 rfl (lv_at hl 0 rfl) ?_
  refine lv_iconst (v := 0) hx hb d_M_black_1 (by decide) ?_
  refine zz_put (v := .int 0) (ws' := gw_M cI cZ cL a (ss_i u 0 0)) cx hw in_M ty_M tk_M nm_M 0 rfl rfl 0 (by decide) kw_314 rfl ⟨rfl, rfl⟩ (Nat.le_of_ble_eq_true rfl) (gw_M_i0 _ _ _ _ _ _) d_M_black_2 (fun H locs hw => ?_)
  refine lv_aload_n hx hb d_M_black_5 rfl (lv_at hl 0 rfl) ?_
  refine lv_iload_n hx hb d_M_black_6 rfl (lv_at hl 1 rfl) ?_
  refine lv_iload_n hx hb d_M_black_7 rfl (lv_at hl 2 rfl) ?_
  refine zz_callVi (As := [.int a0, .int a1]) (rest := []) cx hw (ct_M_isCell l D cI cZ cL a h) (zz_gV kw_299 kw_302 kw_303 kw_301 kw_300) hd_M_isCell ⟨rfl, rfl⟩ ⟨Nat.le_of_ble_eq_true rfl, Nat.le_of_ble_eq_true rfl⟩ 0 rfl rfl rfl rfl hl.1 rfl (Nat.le_of_ble_eq_true rfl) d_M_black_8 (fun r2 s1 H locs h hw => ?_)
  refine lv_if_eq (tgt := 31) hx hb d_M_black_11 (by decide) (fun c3 => ?_) (fun c3 => ?_)
  · replace h := h.1 c3
    refine lv_iconst (v := 0) hx hb d_M_black_31 (by decide) ?_
    exact zz_retz cx hw d_M_black_32 (by decide) h
  · replace h := h.2 c3
    refine lv_aload_n hx hb d_M_black_14 rfl (lv_at hl 0 rfl) ?_
    refine zz_get (v2 := .ref (a 1)) cx hw in_M 0 rfl rfl 3 (by decide) kw_298 rfl rfl d_M_black_15 ?_
    refine lv_aload_n hx hb d_M_black_18 rfl (lv_at hl 0 rfl) ?_
    refine zz_get (v2 := .int (sg_i s1 1)) cx hw in_M 0 rfl rfl 1 (by decide) kw_296 rfl rfl d_M_black_19 ?_
    refine lv_iload_n hx hb d_M_black_22 rfl (lv_at hl 2 rfl) ?_
    refine lv_imul hx hb d_M_black_23 ?_
    refine lv_iload_n hx hb d_M_black_24 rfl (lv_at hl 1 rfl) ?_
    refine lv_iadd hx hb d_M_black_25 ?_
    obtain ⟨hi, h⟩ := h
    refine zz_zald (f2 := sg_a s1 0) cx hw 1 1 rfl rfl hi rfl d_M_black_26 ?_
    refine lv_iload_n hx hb d_M_black_27 rfl (lv_at hl 3 rfl) ?_
    refine lv_icmp_ne (tgt := 33) hx hb d_M_black_28 (by decide) (fun c4 => ?_) (fun c4 => ?_)
    · replace h := h.2 c4
      refine lv_aload_n hx hb d_M_black_33 rfl (lv_at hl 0 rfl) ?_
      refine zz_get (v2 := .ref (a 1)) cx hw in_M 0 rfl rfl 3 (by decide) kw_298 rfl rfl d_M_black_34 ?_
      refine lv_aload_n hx hb d_M_black_37 rfl (lv_at hl 0 rfl) ?_
      refine zz_get (v2 := .int (sg_i s1 1)) cx hw in_M 0 rfl rfl 1 (by decide) kw_296 rfl rfl d_M_black_38 ?_
      refine lv_iload_n hx hb d_M_black_41 rfl (lv_at hl 2 rfl) ?_
      refine lv_imul hx hb d_M_black_42 ?_
      refine lv_iload_n hx hb d_M_black_43 rfl (lv_at hl 1 rfl) ?_
      refine lv_iadd hx hb d_M_black_44 ?_
      refine lv_iload_n hx hb d_M_black_45 rfl (lv_at hl 3 rfl) ?_
      obtain ⟨hi, h⟩ := h
      obtain ⟨hz, h⟩ := h
      refine zz_zast (ws' := gw_M cI cZ cL a (ss_a s1 0 (upd (sg_a s1 0) (((sg_i s1 1) * a1) + a0).toNatClampNeg a2))) cx hw 1 1 rfl rfl hi hz rfl (gw_M_a0 _ _ _ _ _ _) d_M_black_46 (fun H locs hw => ?_)
      refine lv_iconst (v := 0) hx hb d_M_black_47 (by decide) ?_
      refine lv_istore (lv' := [(4, .int 0), (0, .ref (a 0)), (1, .int a0), (2, .int a1), (3, .int a2)]) hx hb d_M_black_48 hl (by decide) rfl (fun ls hl => ?_)
      obtain ⟨n, h⟩ := h
      exact wk_M_black_50_f cx post  n 0 (ss_a s1 0 (upd (sg_a s1 0) (((sg_i s1 1) * a1) + a0).toNatClampNeg a2)) _ _ _ hw (lv_sub hl [1, 0] rfl) h
    · replace h := h.1 c4
      refine lv_iconst (v := 0) hx hb d_M_black_31 (by decide) ?_
      exact zz_retz cx hw d_M_black_32 (by decide) h
set_option maxRecDepth 100000 in
set_option maxHeartbeats 4000000 in
theorem ct_M_isSlot (l : Launch) (D : va_G) (cI cZ cL : ClassId) (a : Nat → Nat) {a0 : Int32} {u : zz_St} {post : Int32 → zz_St → Prop} (h : wp_M_isSlot  a0 u post) : zz_MI l y_M_isSlot (.code y_M_isSlot b_M_isSlot 2 (some .boolean) :: zz_tbl) (rm_M_isSlot) D zz_cl (zz_ty cI cZ cL) (gw_M cI cZ cL a) [.ref (a 0), .int a0] u post := by
  unfold wp_M_isSlot at h
  refine zz_ofI (by decide) (Nat.le_of_ble_eq_true rfl) ?_
  intro p e s m below meth c A cx hw ls hl
  obtain ⟨hx, hb, hr, hml, hown, hts, hlk, hK, hA⟩ := id cx
  refine lv_iload_n hx hb d_M_isSlot_0 rfl (lv_at hl 1 rfl) ?_
  refine lv_if_lt (tgt := 16) hx hb d_M_isSlot_1 (by decide) (fun c1 => ?_) (fun c1 => ?_)
  · replace h := h.1 c1
    refine lv_iconst (v := 0) hx hb d_M_isSlot_16 (by decide) ?_
    exact zz_retz cx hw d_M_isSlot_17 (by decide) h
  · replace h := h.2 c1
    refine lv_iload_n hx hb d_M_isSlot_4 rfl (lv_at hl 1 rfl) ?_
    refine lv_aload_n hx hb d_M_isSlot_5 rfl (lv_at hl 0 rfl) ?_
    refine zz_get (v2 := .int (sg_i u 5)) cx hw in_M 0 rfl rfl 11 (by decide) kw_304 rfl rfl d_M_isSlot_6 ?_
    refine lv_icmp_ge (tgt := 16) hx hb d_M_isSlot_9 (by decide) (fun c2 => ?_) (fun c2 => ?_)
    · replace h := h.1 c2
      refine lv_iconst (v := 0) hx hb d_M_isSlot_16 (by decide) ?_
      exact zz_retz cx hw d_M_isSlot_17 (by decide) h
    · replace h := h.2 c2
      refine lv_iconst (v := 1) hx hb d_M_isSlot_12 (by decide) ?_
      refine lv_goto (tgt := 17) hx hb d_M_isSlot_13 (by decide) ?_
      exact zz_retz cx hw d_M_isSlot_17 (by decide) h
set_option maxRecDepth 100000 in
set_option maxHeartbeats 4000000 in
theorem ct_M_cellOf (l : Launch) (D : va_G) (cI cZ cL : ClassId) (a : Nat → Nat) {a0 : Int32} {a1 : Int32} {u : zz_St} {post : Int32 → zz_St → Prop} (h : wp_M_cellOf  a0 a1 u post) : zz_MI l y_M_cellOf (.code y_M_cellOf b_M_cellOf 3 (some .int) :: zz_tbl) (rm_M_cellOf) D zz_cl (zz_ty cI cZ cL) (gw_M cI cZ cL a) [.ref (a 0), .int a0, .int a1] u post := by
  unfold wp_M_cellOf at h
  refine zz_ofI (by decide) (Nat.le_of_ble_eq_true rfl) ?_
  intro p e s m below meth c A cx hw ls hl
  obtain ⟨hx, hb, hr, hml, hown, hts, hlk, hK, hA⟩ := id cx
  refine lv_aload_n hx hb d_M_cellOf_0 rfl (lv_at hl 0 rfl) ?_
  refine zz_get (v2 := .ref (a 7)) cx hw in_M 0 rfl rfl 12 (by decide) kw_306 rfl rfl d_M_cellOf_1 ?_
  refine lv_iload_n hx hb d_M_cellOf_4 rfl (lv_at hl 1 rfl) ?_
  obtain ⟨hi, h⟩ := h
  refine zz_iald (f2 := sg_a u 6) cx hw 7 0 rfl rfl hi rfl d_M_cellOf_5 ?_
  refine lv_iload_n hx hb d_M_cellOf_6 rfl (lv_at hl 2 rfl) ?_
  refine lv_aload_n hx hb d_M_cellOf_7 rfl (lv_at hl 0 rfl) ?_
  refine zz_get (v2 := .ref (a 9)) cx hw in_M 0 rfl rfl 14 (by decide) kw_308 rfl rfl d_M_cellOf_8 ?_
  refine lv_iload_n hx hb d_M_cellOf_11 rfl (lv_at hl 1 rfl) ?_
  obtain ⟨hi, h⟩ := h
  refine zz_iald (f2 := sg_a u 8) cx hw 9 0 rfl rfl hi rfl d_M_cellOf_12 ?_
  refine lv_imul hx hb d_M_cellOf_13 ?_
  refine lv_iadd hx hb d_M_cellOf_14 ?_
  exact zz_reti cx hw d_M_cellOf_15 h
set_option maxRecDepth 100000 in
set_option maxHeartbeats 4000000 in
theorem ct_M_isLetter (l : Launch) (D : va_G) (cI cZ cL : ClassId) (a : Nat → Nat) {a0 : Int32} {u : zz_St} {post : Int32 → zz_St → Prop} (h : wp_M_isLetter  a0 u post) : zz_MI l y_M_isLetter (.code y_M_isLetter b_M_isLetter 1 (some .boolean) :: zz_tbl) (rm_M_isLetter) D zz_cl (zz_ty cI cZ cL) (gw_M cI cZ cL a) [.int a0] u post := by
  unfold wp_M_isLetter at h
  refine zz_ofI (by decide) (Nat.le_of_ble_eq_true rfl) ?_
  intro p e s m below meth c A cx hw ls hl
  obtain ⟨hx, hb, hr, hml, hown, hts, hlk, hK, hA⟩ := id cx
  refine lv_iload_n hx hb d_M_isLetter_0 rfl (lv_at hl 0 rfl) ?_
  refine lv_bipush (v := 97) hx hb d_M_isLetter_1 (by decide) ?_
  refine lv_icmp_lt (tgt := 16) hx hb d_M_isLetter_3 (by decide) (fun c1 => ?_) (fun c1 => ?_)
  · replace h := h.1 c1
    refine lv_iconst (v := 0) hx hb d_M_isLetter_16 (by decide) ?_
    exact zz_retz cx hw d_M_isLetter_17 (by decide) h
  · replace h := h.2 c1
    refine lv_iload_n hx hb d_M_isLetter_6 rfl (lv_at hl 0 rfl) ?_
    refine lv_bipush (v := 122) hx hb d_M_isLetter_7 (by decide) ?_
    refine lv_icmp_gt (tgt := 16) hx hb d_M_isLetter_9 (by decide) (fun c2 => ?_) (fun c2 => ?_)
    · replace h := h.1 c2
      refine lv_iconst (v := 0) hx hb d_M_isLetter_16 (by decide) ?_
      exact zz_retz cx hw d_M_isLetter_17 (by decide) h
    · replace h := h.2 c2
      refine lv_iconst (v := 1) hx hb d_M_isLetter_12 (by decide) ?_
      refine lv_goto (tgt := 17) hx hb d_M_isLetter_13 (by decide) ?_
      exact zz_retz cx hw d_M_isLetter_17 (by decide) h
set_option maxRecDepth 100000 in
set_option maxHeartbeats 4000000 in
theorem ct_M_unit (l : Launch) (D : va_G) (cI cZ cL : ClassId) (a : Nat → Nat) {a0 : Int32} {u : zz_St} {post : Int32 → zz_St → Prop} (h : wp_M_unit  a0 u post) : zz_MI l y_M_unit (.code y_M_unit b_M_unit 2 (some .boolean) :: zz_tbl) (rm_M_unit) D zz_cl (zz_ty cI cZ cL) (gw_M cI cZ cL a) [.ref (a 0), .int a0] u post := by
  unfold wp_M_unit at h
  refine zz_ofI (by decide) (Nat.le_of_ble_eq_true rfl) ?_
  intro p e s m below meth c A cx hw ls hl
  obtain ⟨hx, hb, hr, hml, hown, hts, hlk, hK, hA⟩ := id cx
  refine lv_aload_n hx hb d_M_unit_0 rfl (lv_at hl 0 rfl) ?_
  refine lv_iconst (v := 0) hx hb d_M_unit_1 (by decide) ?_
  refine zz_put (v := .int 0) (ws' := gw_M cI cZ cL a (ss_i u 0 0)) cx hw in_M ty_M tk_M nm_M 0 rfl rfl 0 (by decide) kw_314 rfl ⟨rfl, rfl⟩ (Nat.le_of_ble_eq_true rfl) (gw_M_i0 _ _ _ _ _ _) d_M_unit_2 (fun H locs hw => ?_)
  refine lv_iload_n hx hb d_M_unit_5 rfl (lv_at hl 1 rfl) ?_
  refine zz_callSi (As := [.int a0]) (rest := []) cx hw (ct_M_isLetter l D cI cZ cL a h) (zz_gS kw_323 kw_325 kw_301 kw_324) hd_M_isLetter ⟨rfl, rfl⟩ ⟨Nat.le_of_ble_eq_true rfl, Nat.le_of_ble_eq_true rfl⟩ rfl hl.1 rfl (Nat.le_of_ble_eq_true rfl) d_M_unit_6 (fun r2 s1 H locs h hw => ?_)
  refine lv_if_eq (tgt := 21) hx hb d_M_unit_9 (by decide) (fun c3 => ?_) (fun c3 => ?_)
  · replace h := h.1 c3
    refine lv_iconst (v := 0) hx hb d_M_unit_21 (by decide) ?_
    exact zz_retz cx hw d_M_unit_22 (by decide) h
  · replace h := h.2 c3
    refine lv_aload_n hx hb d_M_unit_12 rfl (lv_at hl 0 rfl) ?_
    refine zz_get (v2 := .int (sg_i s1 3)) cx hw in_M 0 rfl rfl 5 (by decide) kw_321 rfl rfl d_M_unit_13 ?_
    refine lv_bipush (v := 6) hx hb d_M_unit_16 (by decide) ?_
    refine lv_icmp_ne (tgt := 23) hx hb d_M_unit_18 (by decide) (fun c4 => ?_) (fun c4 => ?_)
    · replace h := h.2 c4
      refine lv_aload_n hx hb d_M_unit_23 rfl (lv_at hl 0 rfl) ?_
      refine zz_get (v2 := .ref (a 3)) cx hw in_M 0 rfl rfl 6 (by decide) kw_322 rfl rfl d_M_unit_24 ?_
      refine lv_aload_n hx hb d_M_unit_27 rfl (lv_at hl 0 rfl) ?_
      refine zz_get (v2 := .int (sg_i s1 3)) cx hw in_M 0 rfl rfl 5 (by decide) kw_321 rfl rfl d_M_unit_28 ?_
      refine lv_iload_n hx hb d_M_unit_31 rfl (lv_at hl 1 rfl) ?_
      obtain ⟨hi, h⟩ := h
      refine zz_iast (ws' := gw_M cI cZ cL a (ss_a s1 2 (upd (sg_a s1 2) (sg_i s1 3).toNatClampNeg a0))) cx hw 3 0 rfl rfl hi rfl (gw_M_a2 _ _ _ _ _ _) d_M_unit_32 (fun H locs hw => ?_)
      refine lv_aload_n hx hb d_M_unit_33 rfl (lv_at hl 0 rfl) ?_
      refine lv_dup hx hb d_M_unit_34 rfl ?_
      refine zz_get (v2 := .int (sg_i s1 3)) cx hw in_M 0 rfl rfl 5 (by decide) kw_321 rfl (congrArg Value.int (sx_ia _ _ _ _)) d_M_unit_35 ?_
      refine lv_iconst (v := 1) hx hb d_M_unit_38 (by decide) ?_
      refine lv_iadd hx hb d_M_unit_39 ?_
      refine lv_topi (fun v5 ev5 => ?_)
      replace h := h v5 ev5
      refine zz_put (v := .int v5) (ws' := gw_M cI cZ cL a (ss_i (ss_a s1 2 (upd (sg_a s1 2) (sg_i s1 3).toNatClampNeg a0)) 3 v5)) cx hw in_M ty_M tk_M nm_M 0 rfl rfl 5 (by decide) kw_321 rfl ⟨rfl, rfl⟩ (Nat.le_of_ble_eq_true rfl) (gw_M_i3 _ _ _ _ _ _) d_M_unit_40 (fun H locs hw => ?_)
      refine lv_iconst (v := 1) hx hb d_M_unit_43 (by decide) ?_
      exact zz_retz cx hw d_M_unit_44 (by decide) h
    · replace h := h.1 c4
      refine lv_iconst (v := 0) hx hb d_M_unit_21 (by decide) ?_
      exact zz_retz cx hw d_M_unit_22 (by decide) h
set_option maxRecDepth 100000 in
set_option maxHeartbeats 4000000 in
theorem wk_M_isRow_17 {p : Program} {l : Launch} {e : Env} {s : State} {m : MethodId} {args : Array Value} {below : List Frame} {meth : Method} {c : Code} {A : Nat → Prop} {D : va_G} {cI cZ cL : ClassId} {a : Nat → Nat} (cx : zz_Cx p s m args meth c "GridFillsModel" b_M_isRow 3 (some .boolean) D zz_cl (zz_ty cI cZ cL) A) (post : Int32 → zz_St → Prop) {kn17 : Int32 → Int32 → zz_St → Prop} (hkn17 : ∀ (x1 : Int32) (x2 : Int32) (u : zz_St) (H : Heap) (locs : List Loc) (ls : Array Slot), zz_Wd D zz_cl A s.heap H locs (gw_M cI cZ cL a u) → lv_has ls 3 [(0, .ref (a 0)), (1, .int x1), (2, .int x2)] → kn17 x1 x2 u → W p l e (rm_M_isRow) s m args below meth c H locs 0 0 (MQ below (va_Qi post (zz_B D zz_cl (zz_ty cI cZ cL) (gw_M cI cZ cL a) A) A) args s 0 0 A) (F0 m 17 ls [])) : ∀ (x1 : Int32) (x2 : Int32) (u : zz_St) (H : Heap) (locs : List Loc) (ls : Array Slot), zz_Wd D zz_cl A s.heap H locs (gw_M cI cZ cL a u) → lv_has ls 3 [(0, .ref (a 0)), (1, .int x1), (2, .int x2)] → wp_M_isRow_17 post kn17 x1 x2 u → W p l e (rm_M_isRow) s m args below meth c H locs 0 0 (MQ below (va_Qi post (zz_B D zz_cl (zz_ty cI cZ cL) (gw_M cI cZ cL a) A) A) args s 0 0 A) (F0 m 17 ls []) := by
  intro x1 x2 u H locs ls hw hl h
  unfold wp_M_isRow_17 at h
  obtain ⟨hx, hb, hr, hml, hown, hts, hlk, hK, hA⟩ := id cx
  refine lv_iload_n hx hb d_M_isRow_17 rfl (lv_at hl 2 rfl) ?_
  refine lv_aload_n hx hb d_M_isRow_18 rfl (lv_at hl 0 rfl) ?_
  refine zz_get (v2 := .int (sg_i u 3)) cx hw in_M 0 rfl rfl 5 (by decide) kw_321 rfl rfl d_M_isRow_19 ?_
  refine lv_icmp_ge (tgt := 53) hx hb d_M_isRow_22 (by decide) (fun c2 => ?_) (fun c2 => ?_)
  · replace h := h.1 c2
    refine lv_iconst (v := 1) hx hb d_M_isRow_53 (by decide) ?_
    exact zz_retz cx hw d_M_isRow_54 (by decide) h
  · replace h := h.2 c2
    refine lv_aload_n hx hb d_M_isRow_25 rfl (lv_at hl 0 rfl) ?_
    refine zz_get (v2 := .ref (a 5)) cx hw in_M 0 rfl rfl 9 (by decide) kw_327 rfl rfl d_M_isRow_26 ?_
    refine lv_bipush (v := 6) hx hb d_M_isRow_29 (by decide) ?_
    refine lv_iload_n hx hb d_M_isRow_31 rfl (lv_at hl 1 rfl) ?_
    refine lv_imul hx hb d_M_isRow_32 ?_
    refine lv_iload_n hx hb d_M_isRow_33 rfl (lv_at hl 2 rfl) ?_
    refine lv_iadd hx hb d_M_isRow_34 ?_
    obtain ⟨hi, h⟩ := h
    refine zz_iald (f2 := sg_a u 4) cx hw 5 0 rfl rfl hi rfl d_M_isRow_35 ?_
    refine lv_aload_n hx hb d_M_isRow_36 rfl (lv_at hl 0 rfl) ?_
    refine zz_get (v2 := .ref (a 3)) cx hw in_M 0 rfl rfl 6 (by decide) kw_322 rfl rfl d_M_isRow_37 ?_
    refine lv_iload_n hx hb d_M_isRow_40 rfl (lv_at hl 2 rfl) ?_
    obtain ⟨hi, h⟩ := h
    refine zz_iald (f2 := sg_a u 2) cx hw 3 0 rfl rfl hi rfl d_M_isRow_41 ?_
    refine lv_icmp_eq (tgt := 47) hx hb d_M_isRow_42 (by decide) (fun c3 => ?_) (fun c3 => ?_)
    · replace h := h.1 c3
      refine lv_iinc (v := x2 + 1) (lv' := [(2, .int (x2 + 1)), (0, .ref (a 0)), (1, .int x1)]) hx hb d_M_isRow_47 hl (k := 2) rfl rfl (by decide) rfl (fun ls hl => ?_)
      refine lv_goto (tgt := 17) hx hb d_M_isRow_50 (by decide) ?_
      exact hkn17 x1 (x2 + 1) u _ _ _ hw (lv_sub hl [1, 2, 0] rfl) h
    · replace h := h.2 c3
      refine lv_iconst (v := 0) hx hb d_M_isRow_45 (by decide) ?_
      exact zz_retz cx hw d_M_isRow_46 (by decide) h
set_option maxRecDepth 100000 in
set_option maxHeartbeats 4000000 in
theorem wk_M_isRow_17_f {p : Program} {l : Launch} {e : Env} {s : State} {m : MethodId} {args : Array Value} {below : List Frame} {meth : Method} {c : Code} {A : Nat → Prop} {D : va_G} {cI cZ cL : ClassId} {a : Nat → Nat} (cx : zz_Cx p s m args meth c "GridFillsModel" b_M_isRow 3 (some .boolean) D zz_cl (zz_ty cI cZ cL) A) (post : Int32 → zz_St → Prop) : ∀ n : Nat, ∀ (x1 : Int32) (x2 : Int32) (u : zz_St) (H : Heap) (locs : List Loc) (ls : Array Slot), zz_Wd D zz_cl A s.heap H locs (gw_M cI cZ cL a u) → lv_has ls 3 [(0, .ref (a 0)), (1, .int x1), (2, .int x2)] → wp_M_isRow_17_f post n x1 x2 u → W p l e (rm_M_isRow) s m args below meth c H locs 0 0 (MQ below (va_Qi post (zz_B D zz_cl (zz_ty cI cZ cL) (gw_M cI cZ cL a) A) A) args s 0 0 A) (F0 m 17 ls []) := by
  intro n
  induction n with
  | zero => exact fun _ _ _ _ _ _ _ _ h => False.elim h
  | succ n ih => exact wk_M_isRow_17 cx post ih
set_option maxRecDepth 100000 in
set_option maxHeartbeats 4000000 in
theorem ct_M_isRow (l : Launch) (D : va_G) (cI cZ cL : ClassId) (a : Nat → Nat) {a0 : Int32} {u : zz_St} {post : Int32 → zz_St → Prop} (h : wp_M_isRow  a0 u post) : zz_MI l y_M_isRow (.code y_M_isRow b_M_isRow 3 (some .boolean) :: zz_tbl) (rm_M_isRow) D zz_cl (zz_ty cI cZ cL) (gw_M cI cZ cL a) [.ref (a 0), .int a0] u post := by
  unfold wp_M_isRow at h
  refine zz_ofI (by decide) (Nat.le_of_ble_eq_true rfl) ?_
  intro p e s m below meth c A cx hw ls hl
  obtain ⟨hx, hb, hr, hml, hown, hts, hlk, hK, hA⟩ := id cx
  refine lv_aload_n hx hb d_M_isRow_0 rfl (lv_at hl 0 rfl) ?_
  refine zz_get (v2 := .ref (a 4)) cx hw in_M 0 rfl rfl 8 (by decide) kw_326 rfl rfl d_M_isRow_1 ?_
  refine lv_iload_n hx hb d_M_isRow_4 rfl (lv_at hl 1 rfl) ?_
  obtain ⟨hi, h⟩ := h
  refine zz_iald (f2 := sg_a u 3) cx hw 4 0 rfl rfl hi rfl d_M_isRow_5 ?_
  refine lv_aload_n hx hb d_M_isRow_6 rfl (lv_at hl 0 rfl) ?_
  refine zz_get (v2 := .int (sg_i u 3)) cx hw in_M 0 rfl rfl 5 (by decide) kw_321 rfl rfl d_M_isRow_7 ?_
  refine lv_icmp_eq (tgt := 15) hx hb d_M_isRow_10 (by decide) (fun c1 => ?_) (fun c1 => ?_)
  · replace h := h.1 c1
    refine lv_iconst (v := 0) hx hb d_M_isRow_15 (by decide) ?_
    refine lv_istore_n (lv' := [(2, .int 0), (0, .ref (a 0)), (1, .int a0)]) hx hb d_M_isRow_16 rfl hl (by decide) rfl (fun ls hl => ?_)
    obtain ⟨n, h⟩ := h
    exact wk_M_isRow_17_f cx post  n a0 0 u _ _ _ hw (lv_sub hl [1, 2, 0] rfl) h
  · replace h := h.2 c1
    refine lv_iconst (v := 0) hx hb d_M_isRow_13 (by decide) ?_
    exact zz_retz cx hw d_M_isRow_14 (by decide) h
set_option maxRecDepth 100000 in
set_option maxHeartbeats 4000000 in
theorem wk_M_enter_58 {p : Program} {l : Launch} {e : Env} {s : State} {m : MethodId} {args : Array Value} {below : List Frame} {meth : Method} {c : Code} {A : Nat → Prop} {D : va_G} {cI cZ cL : ClassId} {a : Nat → Nat} (cx : zz_Cx p s m args meth c "GridFillsModel" b_M_enter 3 (some .int) D zz_cl (zz_ty cI cZ cL) A) (post : Int32 → zz_St → Prop) {kn58 : Int32 → Int32 → zz_St → Prop} (hkn58 : ∀ (x1 : Int32) (x2 : Int32) (u : zz_St) (H : Heap) (locs : List Loc) (ls : Array Slot), zz_Wd D zz_cl A s.heap H locs (gw_M cI cZ cL a u) → lv_has ls 3 [(0, .ref (a 0)), (1, .int x1), (2, .int x2)] → kn58 x1 x2 u → W p l e (rm_M_enter) s m args below meth c H locs 0 0 (MQ below (va_Qi post (zz_B D zz_cl (zz_ty cI cZ cL) (gw_M cI cZ cL a) A) A) args s 0 0 A) (F0 m 58 ls [])) : ∀ (x1 : Int32) (x2 : Int32) (u : zz_St) (H : Heap) (locs : List Loc) (ls : Array Slot), zz_Wd D zz_cl A s.heap H locs (gw_M cI cZ cL a u) → lv_has ls 3 [(0, .ref (a 0)), (1, .int x1), (2, .int x2)] → wp_M_enter_58 post kn58 x1 x2 u → W p l e (rm_M_enter) s m args below meth c H locs 0 0 (MQ below (va_Qi post (zz_B D zz_cl (zz_ty cI cZ cL) (gw_M cI cZ cL a) A) A) args s 0 0 A) (F0 m 58 ls []) := by
  intro x1 x2 u H locs ls hw hl h
  unfold wp_M_enter_58 at h
  obtain ⟨hx, hb, hr, hml, hown, hts, hlk, hK, hA⟩ := id cx
  refine lv_iload_n hx hb d_M_enter_58 rfl (lv_at hl 2 rfl) ?_
  refine lv_aload_n hx hb d_M_enter_59 rfl (lv_at hl 0 rfl) ?_
  refine zz_get (v2 := .int (sg_i u 3)) cx hw in_M 0 rfl rfl 5 (by decide) kw_321 rfl rfl d_M_enter_60 ?_
  refine lv_icmp_ge (tgt := 92) hx hb d_M_enter_63 (by decide) (fun c9 => ?_) (fun c9 => ?_)
  · replace h := h.1 c9
    refine lv_aload_n hx hb d_M_enter_92 rfl (lv_at hl 0 rfl) ?_
    refine zz_get (v2 := .ref (a 4)) cx hw in_M 0 rfl rfl 8 (by decide) kw_326 rfl rfl d_M_enter_93 ?_
    refine lv_aload_n hx hb d_M_enter_96 rfl (lv_at hl 0 rfl) ?_
    refine zz_get (v2 := .int (sg_i u 4)) cx hw in_M 0 rfl rfl 7 (by decide) kw_328 rfl rfl d_M_enter_97 ?_
    refine lv_aload_n hx hb d_M_enter_100 rfl (lv_at hl 0 rfl) ?_
    refine zz_get (v2 := .int (sg_i u 3)) cx hw in_M 0 rfl rfl 5 (by decide) kw_321 rfl rfl d_M_enter_101 ?_
    refine lv_topi (fun v10 ev10 => ?_)
    replace h := h v10 ev10
    obtain ⟨hi, h⟩ := h
    refine zz_iast (ws' := gw_M cI cZ cL a (ss_a u 3 (upd (sg_a u 3) (sg_i u 4).toNatClampNeg v10))) cx hw 4 0 rfl rfl hi rfl (gw_M_a3 _ _ _ _ _ _) d_M_enter_104 (fun H locs hw => ?_)
    refine lv_aload_n hx hb d_M_enter_105 rfl (lv_at hl 0 rfl) ?_
    refine zz_get (v2 := .ref (a 6)) cx hw in_M 0 rfl rfl 10 (by decide) kw_333 rfl rfl d_M_enter_106 ?_
    refine lv_aload_n hx hb d_M_enter_109 rfl (lv_at hl 0 rfl) ?_
    refine zz_get (v2 := .int (sg_i u 4)) cx hw in_M 0 rfl rfl 7 (by decide) kw_328 rfl (congrArg Value.int (sx_ia _ _ _ _)) d_M_enter_110 ?_
    refine lv_iload_n hx hb d_M_enter_113 rfl (lv_at hl 1 rfl) ?_
    obtain ⟨hi, h⟩ := h
    refine zz_iast (ws' := gw_M cI cZ cL a (ss_a (ss_a u 3 (upd (sg_a u 3) (sg_i u 4).toNatClampNeg v10)) 5 (upd (sg_a u 5) (sg_i u 4).toNatClampNeg x1))) cx hw 6 0 rfl rfl hi (sy_a _ _ (by decide)) (gw_M_a5 _ _ _ _ _ _) d_M_enter_114 (fun H locs hw => ?_)
    refine lv_aload_n hx hb d_M_enter_115 rfl (lv_at hl 0 rfl) ?_
    refine lv_dup hx hb d_M_enter_116 rfl ?_
    refine zz_get (v2 := .int (sg_i u 4)) cx hw in_M 0 rfl rfl 7 (by decide) kw_328 rfl (congrArg Value.int ((sx_ia _ _ _ _).trans (sx_ia _ _ _ _))) d_M_enter_117 ?_
    refine lv_iconst (v := 1) hx hb d_M_enter_120 (by decide) ?_
    refine lv_iadd hx hb d_M_enter_121 ?_
    refine lv_topi (fun v11 ev11 => ?_)
    replace h := h v11 ev11
    refine zz_put (v := .int v11) (ws' := gw_M cI cZ cL a (ss_i (ss_a (ss_a u 3 (upd (sg_a u 3) (sg_i u 4).toNatClampNeg v10)) 5 (upd (sg_a u 5) (sg_i u 4).toNatClampNeg x1)) 4 v11)) cx hw in_M ty_M tk_M nm_M 0 rfl rfl 7 (by decide) kw_328 rfl ⟨rfl, rfl⟩ (Nat.le_of_ble_eq_true rfl) (gw_M_i4 _ _ _ _ _ _) d_M_enter_122 (fun H locs hw => ?_)
    refine lv_aload_n hx hb d_M_enter_125 rfl (lv_at hl 0 rfl) ?_
    refine zz_get (v2 := .int v11) cx hw in_M 0 rfl rfl 7 (by decide) kw_328 rfl (congrArg Value.int (sz_i _ _ _)) d_M_enter_126 ?_
    refine lv_iconst (v := 1) hx hb d_M_enter_129 (by decide) ?_
    refine lv_isub hx hb d_M_enter_130 ?_
    exact zz_reti cx hw d_M_enter_131 h
  · replace h := h.2 c9
    refine lv_aload_n hx hb d_M_enter_66 rfl (lv_at hl 0 rfl) ?_
    refine zz_get (v2 := .ref (a 5)) cx hw in_M 0 rfl rfl 9 (by decide) kw_327 rfl rfl d_M_enter_67 ?_
    refine lv_bipush (v := 6) hx hb d_M_enter_70 (by decide) ?_
    refine lv_aload_n hx hb d_M_enter_72 rfl (lv_at hl 0 rfl) ?_
    refine zz_get (v2 := .int (sg_i u 4)) cx hw in_M 0 rfl rfl 7 (by decide) kw_328 rfl rfl d_M_enter_73 ?_
    refine lv_imul hx hb d_M_enter_76 ?_
    refine lv_iload_n hx hb d_M_enter_77 rfl (lv_at hl 2 rfl) ?_
    refine lv_iadd hx hb d_M_enter_78 ?_
    refine lv_aload_n hx hb d_M_enter_79 rfl (lv_at hl 0 rfl) ?_
    refine zz_get (v2 := .ref (a 3)) cx hw in_M 0 rfl rfl 6 (by decide) kw_322 rfl rfl d_M_enter_80 ?_
    refine lv_iload_n hx hb d_M_enter_83 rfl (lv_at hl 2 rfl) ?_
    obtain ⟨hi, h⟩ := h
    refine zz_iald (f2 := sg_a u 2) cx hw 3 0 rfl rfl hi rfl d_M_enter_84 ?_
    refine lv_topi (fun v12 ev12 => ?_)
    replace h := h v12 ev12
    obtain ⟨hi, h⟩ := h
    refine zz_iast (ws' := gw_M cI cZ cL a (ss_a u 4 (upd (sg_a u 4) ((6 * (sg_i u 4)) + x2).toNatClampNeg v12))) cx hw 5 0 rfl rfl hi rfl (gw_M_a4 _ _ _ _ _ _) d_M_enter_85 (fun H locs hw => ?_)
    refine lv_iinc (v := x2 + 1) (lv' := [(2, .int (x2 + 1)), (0, .ref (a 0)), (1, .int x1)]) hx hb d_M_enter_86 hl (k := 2) rfl rfl (by decide) rfl (fun ls hl => ?_)
    refine lv_goto (tgt := 58) hx hb d_M_enter_89 (by decide) ?_
    exact hkn58 x1 (x2 + 1) (ss_a u 4 (upd (sg_a u 4) ((6 * (sg_i u 4)) + x2).toNatClampNeg v12)) _ _ _ hw (lv_sub hl [1, 2, 0] rfl) h
set_option maxRecDepth 100000 in
set_option maxHeartbeats 4000000 in
theorem wk_M_enter_58_f {p : Program} {l : Launch} {e : Env} {s : State} {m : MethodId} {args : Array Value} {below : List Frame} {meth : Method} {c : Code} {A : Nat → Prop} {D : va_G} {cI cZ cL : ClassId} {a : Nat → Nat} (cx : zz_Cx p s m args meth c "GridFillsModel" b_M_enter 3 (some .int) D zz_cl (zz_ty cI cZ cL) A) (post : Int32 → zz_St → Prop) : ∀ n : Nat, ∀ (x1 : Int32) (x2 : Int32) (u : zz_St) (H : Heap) (locs : List Loc) (ls : Array Slot), zz_Wd D zz_cl A s.heap H locs (gw_M cI cZ cL a u) → lv_has ls 3 [(0, .ref (a 0)), (1, .int x1), (2, .int x2)] → wp_M_enter_58_f post n x1 x2 u → W p l e (rm_M_enter) s m args below meth c H locs 0 0 (MQ below (va_Qi post (zz_B D zz_cl (zz_ty cI cZ cL) (gw_M cI cZ cL a) A) A) args s 0 0 A) (F0 m 58 ls []) := by
  intro n
  induction n with
  | zero => exact fun _ _ _ _ _ _ _ _ h => False.elim h
  | succ n ih => exact wk_M_enter_58 cx post ih
set_option maxRecDepth 100000 in
set_option maxHeartbeats 4000000 in
theorem wk_M_enter_32 {p : Program} {l : Launch} {e : Env} {s : State} {m : MethodId} {args : Array Value} {below : List Frame} {meth : Method} {c : Code} {A : Nat → Prop} {D : va_G} {cI cZ cL : ClassId} {a : Nat → Nat} (cx : zz_Cx p s m args meth c "GridFillsModel" b_M_enter 3 (some .int) D zz_cl (zz_ty cI cZ cL) A) (post : Int32 → zz_St → Prop) {kn32 : Int32 → Int32 → zz_St → Prop} (hkn32 : ∀ (x1 : Int32) (x2 : Int32) (u : zz_St) (H : Heap) (locs : List Loc) (ls : Array Slot), zz_Wd D zz_cl A s.heap H locs (gw_M cI cZ cL a u) → lv_has ls 3 [(0, .ref (a 0)), (1, .int x1), (2, .int x2)] → kn32 x1 x2 u → W p l e (rm_M_enter) s m args below meth c H locs 0 0 (MQ below (va_Qi post (zz_B D zz_cl (zz_ty cI cZ cL) (gw_M cI cZ cL a) A) A) args s 0 0 A) (F0 m 32 ls [])) : ∀ (x1 : Int32) (x2 : Int32) (u : zz_St) (H : Heap) (locs : List Loc) (ls : Array Slot), zz_Wd D zz_cl A s.heap H locs (gw_M cI cZ cL a u) → lv_has ls 3 [(0, .ref (a 0)), (1, .int x1), (2, .int x2)] → wp_M_enter_32 post kn32 x1 x2 u → W p l e (rm_M_enter) s m args below meth c H locs 0 0 (MQ below (va_Qi post (zz_B D zz_cl (zz_ty cI cZ cL) (gw_M cI cZ cL a) A) A) args s 0 0 A) (F0 m 32 ls []) := by
  intro x1 x2 u H locs ls hw hl h
  unfold wp_M_enter_32 at h
  obtain ⟨hx, hb, hr, hml, hown, hts, hlk, hK, hA⟩ := id cx
  refine lv_iload_n hx hb d_M_enter_32 rfl (lv_at hl 2 rfl) ?_
  refine lv_aload_n hx hb d_M_enter_33 rfl (lv_at hl 0 rfl) ?_
  refine zz_get (v2 := .int (sg_i u 4)) cx hw in_M 0 rfl rfl 7 (by decide) kw_328 rfl rfl d_M_enter_34 ?_
  refine lv_icmp_ge (tgt := 56) hx hb d_M_enter_37 (by decide) (fun c5 => ?_) (fun c5 => ?_)
  · replace h := h.1 c5
    refine lv_iconst (v := 0) hx hb d_M_enter_56 (by decide) ?_
    refine lv_istore_n (lv' := [(2, .int 0), (0, .ref (a 0)), (1, .int x1)]) hx hb d_M_enter_57 rfl hl (by decide) rfl (fun ls hl => ?_)
    obtain ⟨n, h⟩ := h
    exact wk_M_enter_58_f cx post  n x1 0 u _ _ _ hw (lv_sub hl [1, 2, 0] rfl) h
  · replace h := h.2 c5
    refine lv_aload_n hx hb d_M_enter_40 rfl (lv_at hl 0 rfl) ?_
    refine lv_iload_n hx hb d_M_enter_41 rfl (lv_at hl 2 rfl) ?_
    refine zz_callVi (As := [.int x2]) (rest := []) cx hw (ct_M_isRow l D cI cZ cL a h) (zz_gV kw_329 kw_331 kw_332 kw_301 kw_330) hd_M_isRow ⟨rfl, rfl⟩ ⟨Nat.le_of_ble_eq_true rfl, Nat.le_of_ble_eq_true rfl⟩ 0 rfl rfl rfl rfl hl.1 rfl (Nat.le_of_ble_eq_true rfl) d_M_enter_42 (fun r7 s6 H locs h hw => ?_)
    refine lv_if_eq (tgt := 50) hx hb d_M_enter_45 (by decide) (fun c8 => ?_) (fun c8 => ?_)
    · replace h := h.1 c8
      refine lv_iinc (v := x2 + 1) (lv' := [(2, .int (x2 + 1)), (0, .ref (a 0)), (1, .int x1)]) hx hb d_M_enter_50 hl (k := 2) rfl rfl (by decide) rfl (fun ls hl => ?_)
      refine lv_goto (tgt := 32) hx hb d_M_enter_53 (by decide) ?_
      exact hkn32 x1 (x2 + 1) s6 _ _ _ hw (lv_sub hl [1, 2, 0] rfl) h
    · replace h := h.2 c8
      refine lv_iconst (v := (-1)) hx hb d_M_enter_48 (by decide) ?_
      exact zz_reti cx hw d_M_enter_49 h
set_option maxRecDepth 100000 in
set_option maxHeartbeats 4000000 in
theorem wk_M_enter_32_f {p : Program} {l : Launch} {e : Env} {s : State} {m : MethodId} {args : Array Value} {below : List Frame} {meth : Method} {c : Code} {A : Nat → Prop} {D : va_G} {cI cZ cL : ClassId} {a : Nat → Nat} (cx : zz_Cx p s m args meth c "GridFillsModel" b_M_enter 3 (some .int) D zz_cl (zz_ty cI cZ cL) A) (post : Int32 → zz_St → Prop) : ∀ n : Nat, ∀ (x1 : Int32) (x2 : Int32) (u : zz_St) (H : Heap) (locs : List Loc) (ls : Array Slot), zz_Wd D zz_cl A s.heap H locs (gw_M cI cZ cL a u) → lv_has ls 3 [(0, .ref (a 0)), (1, .int x1), (2, .int x2)] → wp_M_enter_32_f post n x1 x2 u → W p l e (rm_M_enter) s m args below meth c H locs 0 0 (MQ below (va_Qi post (zz_B D zz_cl (zz_ty cI cZ cL) (gw_M cI cZ cL a) A) A) args s 0 0 A) (F0 m 32 ls []) := by
  intro n
  induction n with
  | zero => exact fun _ _ _ _ _ _ _ _ h => False.elim h
  | succ n ih => exact wk_M_enter_32 cx post ih
set_option maxRecDepth 100000 in
set_option maxHeartbeats 4000000 in
theorem ct_M_enter (l : Launch) (D : va_G) (cI cZ cL : ClassId) (a : Nat → Nat) {a0 : Int32} {u : zz_St} {post : Int32 → zz_St → Prop} (h : wp_M_enter  a0 u post) : zz_MI l y_M_enter (.code y_M_enter b_M_enter 3 (some .int) :: zz_tbl) (rm_M_enter) D zz_cl (zz_ty cI cZ cL) (gw_M cI cZ cL a) [.ref (a 0), .int a0] u post := by
  unfold wp_M_enter at h
  refine zz_ofI (by decide) (Nat.le_of_ble_eq_true rfl) ?_
  intro p e s m below meth c A cx hw ls hl
  obtain ⟨hx, hb, hr, hml, hown, hts, hlk, hK, hA⟩ := id cx
  refine lv_aload_n hx hb d_M_enter_0 rfl (lv_at hl 0 rfl) ?_
  refine zz_get (v2 := .int (sg_i u 3)) cx hw in_M 0 rfl rfl 5 (by decide) kw_321 rfl rfl d_M_enter_1 ?_
  refine lv_iconst (v := 2) hx hb d_M_enter_4 (by decide) ?_
  refine lv_icmp_lt (tgt := 28) hx hb d_M_enter_5 (by decide) (fun c1 => ?_) (fun c1 => ?_)
  · replace h := h.1 c1
    refine lv_iconst (v := (-1)) hx hb d_M_enter_28 (by decide) ?_
    exact zz_reti cx hw d_M_enter_29 h
  · replace h := h.2 c1
    refine lv_iload_n hx hb d_M_enter_8 rfl (lv_at hl 1 rfl) ?_
    refine lv_if_lt (tgt := 28) hx hb d_M_enter_9 (by decide) (fun c2 => ?_) (fun c2 => ?_)
    · replace h := h.1 c2
      refine lv_iconst (v := (-1)) hx hb d_M_enter_28 (by decide) ?_
      exact zz_reti cx hw d_M_enter_29 h
    · replace h := h.2 c2
      refine lv_iload_n hx hb d_M_enter_12 rfl (lv_at hl 1 rfl) ?_
      refine lv_sipush (v := 1000) hx hb d_M_enter_13 (by decide) ?_
      refine lv_icmp_gt (tgt := 28) hx hb d_M_enter_16 (by decide) (fun c3 => ?_) (fun c3 => ?_)
      · replace h := h.1 c3
        refine lv_iconst (v := (-1)) hx hb d_M_enter_28 (by decide) ?_
        exact zz_reti cx hw d_M_enter_29 h
      · replace h := h.2 c3
        refine lv_aload_n hx hb d_M_enter_19 rfl (lv_at hl 0 rfl) ?_
        refine zz_get (v2 := .int (sg_i u 4)) cx hw in_M 0 rfl rfl 7 (by decide) kw_328 rfl rfl d_M_enter_20 ?_
        refine lv_bipush (v := 80) hx hb d_M_enter_23 (by decide) ?_
        refine lv_icmp_ne (tgt := 30) hx hb d_M_enter_25 (by decide) (fun c4 => ?_) (fun c4 => ?_)
        · replace h := h.2 c4
          refine lv_iconst (v := 0) hx hb d_M_enter_30 (by decide) ?_
          refine lv_istore_n (lv' := [(2, .int 0), (0, .ref (a 0)), (1, .int a0)]) hx hb d_M_enter_31 rfl hl (by decide) rfl (fun ls hl => ?_)
          obtain ⟨n, h⟩ := h
          exact wk_M_enter_32_f cx post  n a0 0 u _ _ _ hw (lv_sub hl [1, 2, 0] rfl) h
        · replace h := h.1 c4
          refine lv_iconst (v := (-1)) hx hb d_M_enter_28 (by decide) ?_
          exact zz_reti cx hw d_M_enter_29 h
set_option maxRecDepth 100000 in
set_option maxHeartbeats 4000000 in
theorem ct_M_word (l : Launch) (D : va_G) (cI cZ cL : ClassId) (a : Nat → Nat) {a0 : Int32} {u : zz_St} {post : Int32 → zz_St → Prop} (h : wp_M_word  a0 u post) : zz_MI l y_M_word (.code y_M_word b_M_word 3 (some .int) :: zz_tbl) (rm_M_word) D zz_cl (zz_ty cI cZ cL) (gw_M cI cZ cL a) [.ref (a 0), .int a0] u post := by
  unfold wp_M_word at h
  refine zz_ofI (by decide) (Nat.le_of_ble_eq_true rfl) ?_
  intro p e s m below meth c A cx hw ls hl
  obtain ⟨hx, hb, hr, hml, hown, hts, hlk, hK, hA⟩ := id cx
  refine lv_aload_n hx hb d_M_word_0 rfl (lv_at hl 0 rfl) ?_
  refine lv_iconst (v := 0) hx hb d_M_word_1 (by decide) ?_
  refine zz_put (v := .int 0) (ws' := gw_M cI cZ cL a (ss_i u 0 0)) cx hw in_M ty_M tk_M nm_M 0 rfl rfl 0 (by decide) kw_314 rfl ⟨rfl, rfl⟩ (Nat.le_of_ble_eq_true rfl) (gw_M_i0 _ _ _ _ _ _) d_M_word_2 (fun H locs hw => ?_)
  refine lv_aload_n hx hb d_M_word_5 rfl (lv_at hl 0 rfl) ?_
  refine lv_iload_n hx hb d_M_word_6 rfl (lv_at hl 1 rfl) ?_
  refine zz_callVi (As := [.int a0]) (rest := []) cx hw (ct_M_enter l D cI cZ cL a h) (zz_gV kw_334 kw_336 kw_337 kw_301 kw_335) hd_M_enter ⟨rfl, rfl⟩ ⟨Nat.le_of_ble_eq_true rfl, Nat.le_of_ble_eq_true rfl⟩ 0 rfl rfl rfl rfl hl.1 rfl (Nat.le_of_ble_eq_true rfl) d_M_word_7 (fun r2 s1 H locs h hw => ?_)
  refine lv_istore_n (lv' := [(2, .int r2), (0, .ref (a 0)), (1, .int a0)]) hx hb d_M_word_10 rfl hl (by decide) rfl (fun ls hl => ?_)
  refine lv_aload_n hx hb d_M_word_11 rfl (lv_at hl 1 rfl) ?_
  refine lv_iconst (v := 0) hx hb d_M_word_12 (by decide) ?_
  refine zz_put (v := .int 0) (ws' := gw_M cI cZ cL a (ss_i s1 3 0)) cx hw in_M ty_M tk_M nm_M 0 rfl rfl 5 (by decide) kw_321 rfl ⟨rfl, rfl⟩ (Nat.le_of_ble_eq_true rfl) (gw_M_i3 _ _ _ _ _ _) d_M_word_13 (fun H locs hw => ?_)
  refine lv_iload_n hx hb d_M_word_16 rfl (lv_at hl 0 rfl) ?_
  exact zz_reti cx hw d_M_word_17 h
set_option maxRecDepth 100000 in
set_option maxHeartbeats 4000000 in
theorem wk_M_given_27 {p : Program} {l : Launch} {e : Env} {s : State} {m : MethodId} {args : Array Value} {below : List Frame} {meth : Method} {c : Code} {A : Nat → Prop} {D : va_G} {cI cZ cL : ClassId} {a : Nat → Nat} (cx : zz_Cx p s m args meth c "GridFillsModel" b_M_given 4 (some .boolean) D zz_cl (zz_ty cI cZ cL) A) (post : Int32 → zz_St → Prop) : ∀ (x1 : Int32) (x2 : Int32) (x3 : Int32) (u : zz_St) (H : Heap) (locs : List Loc) (ls : Array Slot), zz_Wd D zz_cl A s.heap H locs (gw_M cI cZ cL a u) → lv_has ls 4 [(0, .ref (a 0)), (1, .int x1), (2, .int x2), (3, .int x3)] → wp_M_given_27 post x1 x2 x3 u → W p l e (rm_M_given) s m args below meth c H locs 0 0 (MQ below (va_Qi post (zz_B D zz_cl (zz_ty cI cZ cL) (gw_M cI cZ cL a) A) A) args s 0 0 A) (F0 m 27 ls []) := by
  intro x1 x2 x3 u H locs ls hw hl h
  unfold wp_M_given_27 at h
  obtain ⟨hx, hb, hr, hml, hown, hts, hlk, hK, hA⟩ := id cx
  refine lv_aload_n hx hb d_M_given_27 rfl (lv_at hl 0 rfl) ?_
  refine zz_get (v2 := .ref (a 2)) cx hw in_M 0 rfl rfl 4 (by decide) kw_320 rfl rfl d_M_given_28 ?_
  refine lv_aload_n hx hb d_M_given_31 rfl (lv_at hl 0 rfl) ?_
  refine zz_get (v2 := .int (sg_i u 1)) cx hw in_M 0 rfl rfl 1 (by decide) kw_296 rfl rfl d_M_given_32 ?_
  refine lv_iload_n hx hb d_M_given_35 rfl (lv_at hl 2 rfl) ?_
  refine lv_imul hx hb d_M_given_36 ?_
  refine lv_iload_n hx hb d_M_given_37 rfl (lv_at hl 1 rfl) ?_
  refine lv_iadd hx hb d_M_given_38 ?_
  refine lv_iload_n hx hb d_M_given_39 rfl (lv_at hl 3 rfl) ?_
  obtain ⟨hi, h⟩ := h
  refine zz_iast (ws' := gw_M cI cZ cL a (ss_a u 1 (upd (sg_a u 1) (((sg_i u 1) * x2) + x1).toNatClampNeg x3))) cx hw 2 0 rfl rfl hi rfl (gw_M_a1 _ _ _ _ _ _) d_M_given_40 (fun H locs hw => ?_)
  refine lv_iconst (v := 1) hx hb d_M_given_41 (by decide) ?_
  exact zz_retz cx hw d_M_given_42 (by decide) h
set_option maxRecDepth 100000 in
set_option maxHeartbeats 4000000 in
theorem ct_M_given (l : Launch) (D : va_G) (cI cZ cL : ClassId) (a : Nat → Nat) {a0 : Int32} {a1 : Int32} {a2 : Int32} {u : zz_St} {post : Int32 → zz_St → Prop} (h : wp_M_given  a0 a1 a2 u post) : zz_MI l y_M_given (.code y_M_given b_M_given 4 (some .boolean) :: zz_tbl) (rm_M_given) D zz_cl (zz_ty cI cZ cL) (gw_M cI cZ cL a) [.ref (a 0), .int a0, .int a1, .int a2] u post := by
  unfold wp_M_given at h
  refine zz_ofI (by decide) (Nat.le_of_ble_eq_true rfl) ?_
  intro p e s m below meth c A cx hw ls hl
  obtain ⟨hx, hb, hr, hml, hown, hts, hlk, hK, hA⟩ := id cx
  refine lv_aload_n hx hb d_M_given_0 rfl (lv_at hl 0 rfl) ?_
  refine lv_iconst (v := 0) hx hb d_M_given_1 (by decide) ?_
  refine zz_put (v := .int 0) (ws' := gw_M cI cZ cL a (ss_i u 0 0)) cx hw in_M ty_M tk_M nm_M 0 rfl rfl 0 (by decide) kw_314 rfl ⟨rfl, rfl⟩ (Nat.le_of_ble_eq_true rfl) (gw_M_i0 _ _ _ _ _ _) d_M_given_2 (fun H locs hw => ?_)
  refine lv_aload_n hx hb d_M_given_5 rfl (lv_at hl 0 rfl) ?_
  refine lv_iload_n hx hb d_M_given_6 rfl (lv_at hl 1 rfl) ?_
  refine lv_iload_n hx hb d_M_given_7 rfl (lv_at hl 2 rfl) ?_
  refine zz_callVi (As := [.int a0, .int a1]) (rest := []) cx hw (ct_M_isOpen l D cI cZ cL a h) (zz_gV kw_309 kw_311 kw_312 kw_301 kw_310) hd_M_isOpen ⟨rfl, rfl⟩ ⟨Nat.le_of_ble_eq_true rfl, Nat.le_of_ble_eq_true rfl⟩ 0 rfl rfl rfl rfl hl.1 rfl (Nat.le_of_ble_eq_true rfl) d_M_given_8 (fun r2 s1 H locs h hw => ?_)
  refine lv_if_eq (tgt := 25) hx hb d_M_given_11 (by decide) (fun c3 => ?_) (fun c3 => ?_)
  · replace h := h.1 c3
    refine lv_iconst (v := 0) hx hb d_M_given_25 (by decide) ?_
    exact zz_retz cx hw d_M_given_26 (by decide) h
  · replace h := h.2 c3
    refine lv_iload_n hx hb d_M_given_14 rfl (lv_at hl 3 rfl) ?_
    refine lv_if_eq (tgt := 27) hx hb d_M_given_15 (by decide) (fun c4 => ?_) (fun c4 => ?_)
    · replace h := h.1 c4
      exact wk_M_given_27 cx post  a0 a1 a2 s1 _ _ _ hw (lv_sub hl [0, 1, 2, 3] rfl) h
    · replace h := h.2 c4
      refine lv_iload_n hx hb d_M_given_18 rfl (lv_at hl 3 rfl) ?_
      refine zz_callSi (As := [.int a2]) (rest := []) cx hw (ct_M_isLetter l D cI cZ cL a h) (zz_gS kw_323 kw_325 kw_301 kw_324) hd_M_isLetter ⟨rfl, rfl⟩ ⟨Nat.le_of_ble_eq_true rfl, Nat.le_of_ble_eq_true rfl⟩ rfl hl.1 rfl (Nat.le_of_ble_eq_true rfl) d_M_given_19 (fun r6 s5 H locs h hw => ?_)
      refine lv_if_ne (tgt := 27) hx hb d_M_given_22 (by decide) (fun c7 => ?_) (fun c7 => ?_)
      · replace h := h.2 c7
        exact wk_M_given_27 cx post  a0 a1 a2 s5 _ _ _ hw (lv_sub hl [0, 1, 2, 3] rfl) h
      · replace h := h.1 c7
        refine lv_iconst (v := 0) hx hb d_M_given_25 (by decide) ?_
        exact zz_retz cx hw d_M_given_26 (by decide) h
set_option maxRecDepth 100000 in
set_option maxHeartbeats 4000000 in
theorem wk_M_theme_47 {p : Program} {l : Launch} {e : Env} {s : State} {m : MethodId} {args : Array Value} {below : List Frame} {meth : Method} {c : Code} {A : Nat → Prop} {D : va_G} {cI cZ cL : ClassId} {a : Nat → Nat} (cx : zz_Cx p s m args meth c "GridFillsModel" b_M_theme 3 (some .boolean) D zz_cl (zz_ty cI cZ cL) A) (post : Int32 → zz_St → Prop) : ∀ (x1 : Int32) (x2 : Int32) (u : zz_St) (H : Heap) (locs : List Loc) (ls : Array Slot), zz_Wd D zz_cl A s.heap H locs (gw_M cI cZ cL a u) → lv_has ls 3 [(0, .ref (a 0)), (1, .int x1), (2, .int x2)] → wp_M_theme_47 post x1 x2 u → W p l e (rm_M_theme) s m args below meth c H locs 0 0 (MQ below (va_Qi post (zz_B D zz_cl (zz_ty cI cZ cL) (gw_M cI cZ cL a) A) A) args s 0 0 A) (F0 m 47 ls []) := by
  intro x1 x2 u H locs ls hw hl h
  unfold wp_M_theme_47 at h
  obtain ⟨hx, hb, hr, hml, hown, hts, hlk, hK, hA⟩ := id cx
  refine lv_aload_n hx hb d_M_theme_47 rfl (lv_at hl 0 rfl) ?_
  refine zz_get (v2 := .ref (a 10)) cx hw in_M 0 rfl rfl 15 (by decide) kw_313 rfl rfl d_M_theme_48 ?_
  refine lv_iload_n hx hb d_M_theme_51 rfl (lv_at hl 1 rfl) ?_
  refine lv_iload_n hx hb d_M_theme_52 rfl (lv_at hl 2 rfl) ?_
  obtain ⟨hi, h⟩ := h
  refine zz_iast (ws' := gw_M cI cZ cL a (ss_a u 9 (upd (sg_a u 9) x1.toNatClampNeg x2))) cx hw 10 0 rfl rfl hi rfl (gw_M_a9 _ _ _ _ _ _) d_M_theme_53 (fun H locs hw => ?_)
  refine lv_iconst (v := 1) hx hb d_M_theme_54 (by decide) ?_
  exact zz_retz cx hw d_M_theme_55 (by decide) h
set_option maxRecDepth 100000 in
set_option maxHeartbeats 4000000 in
theorem ct_M_theme (l : Launch) (D : va_G) (cI cZ cL : ClassId) (a : Nat → Nat) {a0 : Int32} {a1 : Int32} {u : zz_St} {post : Int32 → zz_St → Prop} (h : wp_M_theme  a0 a1 u post) : zz_MI l y_M_theme (.code y_M_theme b_M_theme 3 (some .boolean) :: zz_tbl) (rm_M_theme) D zz_cl (zz_ty cI cZ cL) (gw_M cI cZ cL a) [.ref (a 0), .int a0, .int a1] u post := by
  unfold wp_M_theme at h
  refine zz_ofI (by decide) (Nat.le_of_ble_eq_true rfl) ?_
  intro p e s m below meth c A cx hw ls hl
  obtain ⟨hx, hb, hr, hml, hown, hts, hlk, hK, hA⟩ := id cx
  refine lv_aload_n hx hb d_M_theme_0 rfl (lv_at hl 0 rfl) ?_
  refine lv_iconst (v := 0) hx hb d_M_theme_1 (by decide) ?_
  refine zz_put (v := .int 0) (ws' := gw_M cI cZ cL a (ss_i u 0 0)) cx hw in_M ty_M tk_M nm_M 0 rfl rfl 0 (by decide) kw_314 rfl ⟨rfl, rfl⟩ (Nat.le_of_ble_eq_true rfl) (gw_M_i0 _ _ _ _ _ _) d_M_theme_2 (fun H locs hw => ?_)
  refine lv_aload_n hx hb d_M_theme_5 rfl (lv_at hl 0 rfl) ?_
  refine lv_iload_n hx hb d_M_theme_6 rfl (lv_at hl 1 rfl) ?_
  refine zz_callVi (As := [.int a0]) (rest := []) cx hw (ct_M_isSlot l D cI cZ cL a h) (zz_gV kw_338 kw_340 kw_341 kw_301 kw_339) hd_M_isSlot ⟨rfl, rfl⟩ ⟨Nat.le_of_ble_eq_true rfl, Nat.le_of_ble_eq_true rfl⟩ 0 rfl rfl rfl rfl hl.1 rfl (Nat.le_of_ble_eq_true rfl) d_M_theme_7 (fun r2 s1 H locs h hw => ?_)
  refine lv_if_eq (tgt := 45) hx hb d_M_theme_10 (by decide) (fun c3 => ?_) (fun c3 => ?_)
  · replace h := h.1 c3
    refine lv_iconst (v := 0) hx hb d_M_theme_45 (by decide) ?_
    exact zz_retz cx hw d_M_theme_46 (by decide) h
  · replace h := h.2 c3
    refine lv_iload_n hx hb d_M_theme_13 rfl (lv_at hl 2 rfl) ?_
    refine lv_iconst (v := (-1)) hx hb d_M_theme_14 (by decide) ?_
    refine lv_icmp_eq (tgt := 47) hx hb d_M_theme_15 (by decide) (fun c4 => ?_) (fun c4 => ?_)
    · replace h := h.1 c4
      exact wk_M_theme_47 cx post  a0 a1 s1 _ _ _ hw (lv_sub hl [0, 1, 2] rfl) h
    · replace h := h.2 c4
      refine lv_iload_n hx hb d_M_theme_18 rfl (lv_at hl 2 rfl) ?_
      refine lv_if_lt (tgt := 45) hx hb d_M_theme_19 (by decide) (fun c5 => ?_) (fun c5 => ?_)
      · replace h := h.1 c5
        refine lv_iconst (v := 0) hx hb d_M_theme_45 (by decide) ?_
        exact zz_retz cx hw d_M_theme_46 (by decide) h
      · replace h := h.2 c5
        refine lv_iload_n hx hb d_M_theme_22 rfl (lv_at hl 2 rfl) ?_
        refine lv_aload_n hx hb d_M_theme_23 rfl (lv_at hl 0 rfl) ?_
        refine zz_get (v2 := .int (sg_i s1 4)) cx hw in_M 0 rfl rfl 7 (by decide) kw_328 rfl rfl d_M_theme_24 ?_
        refine lv_icmp_ge (tgt := 45) hx hb d_M_theme_27 (by decide) (fun c6 => ?_) (fun c6 => ?_)
        · replace h := h.1 c6
          refine lv_iconst (v := 0) hx hb d_M_theme_45 (by decide) ?_
          exact zz_retz cx hw d_M_theme_46 (by decide) h
        · replace h := h.2 c6
          refine lv_aload_n hx hb d_M_theme_30 rfl (lv_at hl 0 rfl) ?_
          refine zz_get (v2 := .ref (a 4)) cx hw in_M 0 rfl rfl 8 (by decide) kw_326 rfl rfl d_M_theme_31 ?_
          refine lv_iload_n hx hb d_M_theme_34 rfl (lv_at hl 2 rfl) ?_
          obtain ⟨hi, h⟩ := h
          refine zz_iald (f2 := sg_a s1 3) cx hw 4 0 rfl rfl hi rfl d_M_theme_35 ?_
          refine lv_aload_n hx hb d_M_theme_36 rfl (lv_at hl 0 rfl) ?_
          refine zz_get (v2 := .ref (a 8)) cx hw in_M 0 rfl rfl 13 (by decide) kw_307 rfl rfl d_M_theme_37 ?_
          refine lv_iload_n hx hb d_M_theme_40 rfl (lv_at hl 1 rfl) ?_
          obtain ⟨hi, h⟩ := h
          refine zz_iald (f2 := sg_a s1 7) cx hw 8 0 rfl rfl hi rfl d_M_theme_41 ?_
          refine lv_icmp_eq (tgt := 47) hx hb d_M_theme_42 (by decide) (fun c7 => ?_) (fun c7 => ?_)
          · replace h := h.1 c7
            exact wk_M_theme_47 cx post  a0 a1 s1 _ _ _ hw (lv_sub hl [0, 1, 2] rfl) h
          · replace h := h.2 c7
            refine lv_iconst (v := 0) hx hb d_M_theme_45 (by decide) ?_
            exact zz_retz cx hw d_M_theme_46 (by decide) h
set_option maxRecDepth 100000 in
set_option maxHeartbeats 4000000 in
theorem ct_M_slots (l : Launch) (D : va_G) (cI cZ cL : ClassId) (a : Nat → Nat) {u : zz_St} {post : Int32 → zz_St → Prop} (h : wp_M_slots  u post) : zz_MI l y_M_slots (.code y_M_slots b_M_slots 1 (some .int) :: zz_tbl) (rm_M_slots) D zz_cl (zz_ty cI cZ cL) (gw_M cI cZ cL a) [.ref (a 0)] u post := by
  unfold wp_M_slots at h
  refine zz_ofI (by decide) (Nat.le_of_ble_eq_true rfl) ?_
  intro p e s m below meth c A cx hw ls hl
  obtain ⟨hx, hb, hr, hml, hown, hts, hlk, hK, hA⟩ := id cx
  refine lv_aload_n hx hb d_M_slots_0 rfl (lv_at hl 0 rfl) ?_
  refine lv_iconst (v := 0) hx hb d_M_slots_1 (by decide) ?_
  refine zz_put (v := .int 0) (ws' := gw_M cI cZ cL a (ss_i u 0 0)) cx hw in_M ty_M tk_M nm_M 0 rfl rfl 0 (by decide) kw_314 rfl ⟨rfl, rfl⟩ (Nat.le_of_ble_eq_true rfl) (gw_M_i0 _ _ _ _ _ _) d_M_slots_2 (fun H locs hw => ?_)
  refine lv_aload_n hx hb d_M_slots_5 rfl (lv_at hl 0 rfl) ?_
  refine zz_get (v2 := .int (sg_i u 5)) cx hw in_M 0 rfl rfl 11 (by decide) kw_304 rfl (congrArg Value.int (sy_i _ _ (by decide))) d_M_slots_6 ?_
  exact zz_reti cx hw d_M_slots_9 h
set_option maxRecDepth 100000 in
set_option maxHeartbeats 4000000 in
theorem wk_M_spell_94 {p : Program} {l : Launch} {e : Env} {s : State} {m : MethodId} {args : Array Value} {below : List Frame} {meth : Method} {c : Code} {A : Nat → Prop} {D : va_G} {cI cZ cL : ClassId} {a : Nat → Nat} (cx : zz_Cx p s m args meth c "GridFillsModel" b_M_spell 3 none D zz_cl (zz_ty cI cZ cL) A) (post : zz_St → Prop) {kn28 : Int32 → zz_St → Prop} (hkn28 : ∀ (x1 : Int32) (u : zz_St) (H : Heap) (locs : List Loc) (ls : Array Slot), zz_Wd D zz_cl A s.heap H locs (gw_M cI cZ cL a u) → lv_has ls 3 [(0, .ref (a 0)), (1, .int x1)] → kn28 x1 u → W p l e (rm_M_spell) s m args below meth c H locs 0 0 (MQ below (va_Qv post (zz_B D zz_cl (zz_ty cI cZ cL) (gw_M cI cZ cL a) A) A) args s 0 0 A) (F0 m 28 ls [])) : ∀ (x1 : Int32) (u : zz_St) (H : Heap) (locs : List Loc) (ls : Array Slot), zz_Wd D zz_cl A s.heap H locs (gw_M cI cZ cL a u) → lv_has ls 3 [(0, .ref (a 0)), (1, .int x1)] → wp_M_spell_94 post kn28 x1 u → W p l e (rm_M_spell) s m args below meth c H locs 0 0 (MQ below (va_Qv post (zz_B D zz_cl (zz_ty cI cZ cL) (gw_M cI cZ cL a) A) A) args s 0 0 A) (F0 m 94 ls []) := by
  intro x1 u H locs ls hw hl h
  unfold wp_M_spell_94 at h
  obtain ⟨hx, hb, hr, hml, hown, hts, hlk, hK, hA⟩ := id cx
  refine lv_iinc (v := x1 + 1) (lv' := [(1, .int (x1 + 1)), (0, .ref (a 0))]) hx hb d_M_spell_94 hl (k := 1) rfl rfl (by decide) rfl (fun ls hl => ?_)
  refine lv_goto (tgt := 28) hx hb d_M_spell_97 (by decide) ?_
  exact hkn28 (x1 + 1) u _ _ _ hw (lv_sub hl [1, 0] rfl) h
set_option maxRecDepth 100000 in
set_option maxHeartbeats 4000000 in
theorem wk_M_spell_51 {p : Program} {l : Launch} {e : Env} {s : State} {m : MethodId} {args : Array Value} {below : List Frame} {meth : Method} {c : Code} {A : Nat → Prop} {D : va_G} {cI cZ cL : ClassId} {a : Nat → Nat} (cx : zz_Cx p s m args meth c "GridFillsModel" b_M_spell 3 none D zz_cl (zz_ty cI cZ cL) A) (post : zz_St → Prop) {kn28 : Int32 → zz_St → Prop} {kn51 : Int32 → Int32 → zz_St → Prop} (hkn28 : ∀ (x1 : Int32) (u : zz_St) (H : Heap) (locs : List Loc) (ls : Array Slot), zz_Wd D zz_cl A s.heap H locs (gw_M cI cZ cL a u) → lv_has ls 3 [(0, .ref (a 0)), (1, .int x1)] → kn28 x1 u → W p l e (rm_M_spell) s m args below meth c H locs 0 0 (MQ below (va_Qv post (zz_B D zz_cl (zz_ty cI cZ cL) (gw_M cI cZ cL a) A) A) args s 0 0 A) (F0 m 28 ls [])) (hkn51 : ∀ (x1 : Int32) (x2 : Int32) (u : zz_St) (H : Heap) (locs : List Loc) (ls : Array Slot), zz_Wd D zz_cl A s.heap H locs (gw_M cI cZ cL a u) → lv_has ls 3 [(0, .ref (a 0)), (1, .int x1), (2, .int x2)] → kn51 x1 x2 u → W p l e (rm_M_spell) s m args below meth c H locs 0 0 (MQ below (va_Qv post (zz_B D zz_cl (zz_ty cI cZ cL) (gw_M cI cZ cL a) A) A) args s 0 0 A) (F0 m 51 ls [])) : ∀ (x1 : Int32) (x2 : Int32) (u : zz_St) (H : Heap) (locs : List Loc) (ls : Array Slot), zz_Wd D zz_cl A s.heap H locs (gw_M cI cZ cL a u) → lv_has ls 3 [(0, .ref (a 0)), (1, .int x1), (2, .int x2)] → wp_M_spell_51 post kn28 kn51 x1 x2 u → W p l e (rm_M_spell) s m args below meth c H locs 0 0 (MQ below (va_Qv post (zz_B D zz_cl (zz_ty cI cZ cL) (gw_M cI cZ cL a) A) A) args s 0 0 A) (F0 m 51 ls []) := by
  intro x1 x2 u H locs ls hw hl h
  unfold wp_M_spell_51 at h
  obtain ⟨hx, hb, hr, hml, hown, hts, hlk, hK, hA⟩ := id cx
  refine lv_iload_n hx hb d_M_spell_51 rfl (lv_at hl 2 rfl) ?_
  refine lv_aload_n hx hb d_M_spell_52 rfl (lv_at hl 0 rfl) ?_
  refine zz_get (v2 := .ref (a 8)) cx hw in_M 0 rfl rfl 13 (by decide) kw_307 rfl rfl d_M_spell_53 ?_
  refine lv_iload_n hx hb d_M_spell_56 rfl (lv_at hl 1 rfl) ?_
  obtain ⟨hi, h⟩ := h
  refine zz_iald (f2 := sg_a u 7) cx hw 8 0 rfl rfl hi rfl d_M_spell_57 ?_
  refine lv_icmp_ge (tgt := 94) hx hb d_M_spell_58 (by decide) (fun c5 => ?_) (fun c5 => ?_)
  · replace h := h.1 c5
    exact wk_M_spell_94 cx post hkn28 x1 u _ _ _ hw (lv_sub hl [0, 1] rfl) h
  · replace h := h.2 c5
    refine lv_aload_n hx hb d_M_spell_61 rfl (lv_at hl 0 rfl) ?_
    refine zz_get (v2 := .ref (a 13)) cx hw in_M 0 rfl rfl 22 (by decide) kw_342 rfl rfl d_M_spell_62 ?_
    refine lv_aload_n hx hb d_M_spell_65 rfl (lv_at hl 0 rfl) ?_
    refine lv_iload_n hx hb d_M_spell_66 rfl (lv_at hl 1 rfl) ?_
    refine lv_iload_n hx hb d_M_spell_67 rfl (lv_at hl 2 rfl) ?_
    refine zz_callVi (As := [.int x1, .int x2]) (rest := [.ref (a 13)]) cx hw (ct_M_cellOf l D cI cZ cL a h) (zz_gV kw_344 kw_346 kw_347 kw_301 kw_345) hd_M_cellOf ⟨rfl, rfl⟩ ⟨Nat.le_of_ble_eq_true rfl, Nat.le_of_ble_eq_true rfl⟩ 0 rfl rfl rfl rfl hl.1 rfl (Nat.le_of_ble_eq_true rfl) d_M_spell_68 (fun r7 s6 H locs h hw => ?_)
    refine lv_aload_n hx hb d_M_spell_71 rfl (lv_at hl 0 rfl) ?_
    refine zz_get (v2 := .ref (a 5)) cx hw in_M 0 rfl rfl 9 (by decide) kw_327 rfl rfl d_M_spell_72 ?_
    refine lv_bipush (v := 6) hx hb d_M_spell_75 (by decide) ?_
    refine lv_aload_n hx hb d_M_spell_77 rfl (lv_at hl 0 rfl) ?_
    refine zz_get (v2 := .ref (a 11)) cx hw in_M 0 rfl rfl 17 (by decide) kw_343 rfl rfl d_M_spell_78 ?_
    refine lv_iload_n hx hb d_M_spell_81 rfl (lv_at hl 1 rfl) ?_
    obtain ⟨hi, h⟩ := h
    refine zz_iald (f2 := sg_a s6 10) cx hw 11 0 rfl rfl hi rfl d_M_spell_82 ?_
    refine lv_imul hx hb d_M_spell_83 ?_
    refine lv_iload_n hx hb d_M_spell_84 rfl (lv_at hl 2 rfl) ?_
    refine lv_iadd hx hb d_M_spell_85 ?_
    obtain ⟨hi, h⟩ := h
    refine zz_iald (f2 := sg_a s6 4) cx hw 5 0 rfl rfl hi rfl d_M_spell_86 ?_
    refine lv_topi (fun v8 ev8 => ?_)
    replace h := h v8 ev8
    obtain ⟨hi, h⟩ := h
    refine zz_iast (ws' := gw_M cI cZ cL a (ss_a s6 12 (upd (sg_a s6 12) r7.toNatClampNeg v8))) cx hw 13 0 rfl rfl hi rfl (gw_M_a12 _ _ _ _ _ _) d_M_spell_87 (fun H locs hw => ?_)
    refine lv_iinc (v := x2 + 1) (lv' := [(2, .int (x2 + 1)), (0, .ref (a 0)), (1, .int x1)]) hx hb d_M_spell_88 hl (k := 2) rfl rfl (by decide) rfl (fun ls hl => ?_)
    refine lv_goto (tgt := 51) hx hb d_M_spell_91 (by decide) ?_
    exact hkn51 x1 (x2 + 1) (ss_a s6 12 (upd (sg_a s6 12) r7.toNatClampNeg v8)) _ _ _ hw (lv_sub hl [1, 2, 0] rfl) h
set_option maxRecDepth 100000 in
set_option maxHeartbeats 4000000 in
theorem wk_M_spell_51_f {p : Program} {l : Launch} {e : Env} {s : State} {m : MethodId} {args : Array Value} {below : List Frame} {meth : Method} {c : Code} {A : Nat → Prop} {D : va_G} {cI cZ cL : ClassId} {a : Nat → Nat} (cx : zz_Cx p s m args meth c "GridFillsModel" b_M_spell 3 none D zz_cl (zz_ty cI cZ cL) A) (post : zz_St → Prop) {kn28 : Int32 → zz_St → Prop} (hkn28 : ∀ (x1 : Int32) (u : zz_St) (H : Heap) (locs : List Loc) (ls : Array Slot), zz_Wd D zz_cl A s.heap H locs (gw_M cI cZ cL a u) → lv_has ls 3 [(0, .ref (a 0)), (1, .int x1)] → kn28 x1 u → W p l e (rm_M_spell) s m args below meth c H locs 0 0 (MQ below (va_Qv post (zz_B D zz_cl (zz_ty cI cZ cL) (gw_M cI cZ cL a) A) A) args s 0 0 A) (F0 m 28 ls [])) : ∀ n : Nat, ∀ (x1 : Int32) (x2 : Int32) (u : zz_St) (H : Heap) (locs : List Loc) (ls : Array Slot), zz_Wd D zz_cl A s.heap H locs (gw_M cI cZ cL a u) → lv_has ls 3 [(0, .ref (a 0)), (1, .int x1), (2, .int x2)] → wp_M_spell_51_f post kn28 n x1 x2 u → W p l e (rm_M_spell) s m args below meth c H locs 0 0 (MQ below (va_Qv post (zz_B D zz_cl (zz_ty cI cZ cL) (gw_M cI cZ cL a) A) A) args s 0 0 A) (F0 m 51 ls []) := by
  intro n
  induction n with
  | zero => exact fun _ _ _ _ _ _ _ _ h => False.elim h
  | succ n ih => exact wk_M_spell_51 cx post hkn28 ih
set_option maxRecDepth 100000 in
set_option maxHeartbeats 4000000 in
theorem wk_M_spell_28 {p : Program} {l : Launch} {e : Env} {s : State} {m : MethodId} {args : Array Value} {below : List Frame} {meth : Method} {c : Code} {A : Nat → Prop} {D : va_G} {cI cZ cL : ClassId} {a : Nat → Nat} (cx : zz_Cx p s m args meth c "GridFillsModel" b_M_spell 3 none D zz_cl (zz_ty cI cZ cL) A) (post : zz_St → Prop) {kn28 : Int32 → zz_St → Prop} (hkn28 : ∀ (x1 : Int32) (u : zz_St) (H : Heap) (locs : List Loc) (ls : Array Slot), zz_Wd D zz_cl A s.heap H locs (gw_M cI cZ cL a u) → lv_has ls 3 [(0, .ref (a 0)), (1, .int x1)] → kn28 x1 u → W p l e (rm_M_spell) s m args below meth c H locs 0 0 (MQ below (va_Qv post (zz_B D zz_cl (zz_ty cI cZ cL) (gw_M cI cZ cL a) A) A) args s 0 0 A) (F0 m 28 ls [])) : ∀ (x1 : Int32) (u : zz_St) (H : Heap) (locs : List Loc) (ls : Array Slot), zz_Wd D zz_cl A s.heap H locs (gw_M cI cZ cL a u) → lv_has ls 3 [(0, .ref (a 0)), (1, .int x1)] → wp_M_spell_28 post kn28 x1 u → W p l e (rm_M_spell) s m args below meth c H locs 0 0 (MQ below (va_Qv post (zz_B D zz_cl (zz_ty cI cZ cL) (gw_M cI cZ cL a) A) A) args s 0 0 A) (F0 m 28 ls []) := by
  intro x1 u H locs ls hw hl h
  unfold wp_M_spell_28 at h
  obtain ⟨hx, hb, hr, hml, hown, hts, hlk, hK, hA⟩ := id cx
  refine lv_iload_n hx hb d_M_spell_28 rfl (lv_at hl 1 rfl) ?_
  refine lv_aload_n hx hb d_M_spell_29 rfl (lv_at hl 0 rfl) ?_
  refine zz_get (v2 := .int (sg_i u 5)) cx hw in_M 0 rfl rfl 11 (by decide) kw_304 rfl rfl d_M_spell_30 ?_
  refine lv_icmp_ge (tgt := 100) hx hb d_M_spell_33 (by decide) (fun c3 => ?_) (fun c3 => ?_)
  · replace h := h.1 c3
    exact zz_retv cx hw d_M_spell_100 h
  · replace h := h.2 c3
    refine lv_aload_n hx hb d_M_spell_36 rfl (lv_at hl 0 rfl) ?_
    refine zz_get (v2 := .ref (a 11)) cx hw in_M 0 rfl rfl 17 (by decide) kw_343 rfl rfl d_M_spell_37 ?_
    refine lv_iload_n hx hb d_M_spell_40 rfl (lv_at hl 1 rfl) ?_
    obtain ⟨hi, h⟩ := h
    refine zz_iald (f2 := sg_a u 10) cx hw 11 0 rfl rfl hi rfl d_M_spell_41 ?_
    refine lv_iconst (v := (-1)) hx hb d_M_spell_42 (by decide) ?_
    refine lv_icmp_ne (tgt := 49) hx hb d_M_spell_43 (by decide) (fun c4 => ?_) (fun c4 => ?_)
    · replace h := h.2 c4
      refine lv_iconst (v := 0) hx hb d_M_spell_49 (by decide) ?_
      refine lv_istore_n (lv' := [(2, .int 0), (0, .ref (a 0)), (1, .int x1)]) hx hb d_M_spell_50 rfl hl (by decide) rfl (fun ls hl => ?_)
      obtain ⟨n, h⟩ := h
      exact wk_M_spell_51_f cx post hkn28 n x1 0 u _ _ _ hw (lv_sub hl [1, 2, 0] rfl) h
    · replace h := h.1 c4
      refine lv_goto (tgt := 94) hx hb d_M_spell_46 (by decide) ?_
      exact wk_M_spell_94 cx post hkn28 x1 u _ _ _ hw (lv_sub hl [0, 1] rfl) h
set_option maxRecDepth 100000 in
set_option maxHeartbeats 4000000 in
theorem wk_M_spell_28_f {p : Program} {l : Launch} {e : Env} {s : State} {m : MethodId} {args : Array Value} {below : List Frame} {meth : Method} {c : Code} {A : Nat → Prop} {D : va_G} {cI cZ cL : ClassId} {a : Nat → Nat} (cx : zz_Cx p s m args meth c "GridFillsModel" b_M_spell 3 none D zz_cl (zz_ty cI cZ cL) A) (post : zz_St → Prop) : ∀ n : Nat, ∀ (x1 : Int32) (u : zz_St) (H : Heap) (locs : List Loc) (ls : Array Slot), zz_Wd D zz_cl A s.heap H locs (gw_M cI cZ cL a u) → lv_has ls 3 [(0, .ref (a 0)), (1, .int x1)] → wp_M_spell_28_f post n x1 u → W p l e (rm_M_spell) s m args below meth c H locs 0 0 (MQ below (va_Qv post (zz_B D zz_cl (zz_ty cI cZ cL) (gw_M cI cZ cL a) A) A) args s 0 0 A) (F0 m 28 ls []) := by
  intro n
  induction n with
  | zero => exact fun _ _ _ _ _ _ _ h => False.elim h
  | succ n ih => exact wk_M_spell_28 cx post ih
set_option maxRecDepth 100000 in
set_option maxHeartbeats 4000000 in
theorem wk_M_spell_2 {p : Program} {l : Launch} {e : Env} {s : State} {m : MethodId} {args : Array Value} {below : List Frame} {meth : Method} {c : Code} {A : Nat → Prop} {D : va_G} {cI cZ cL : ClassId} {a : Nat → Nat} (cx : zz_Cx p s m args meth c "GridFillsModel" b_M_spell 3 none D zz_cl (zz_ty cI cZ cL) A) (post : zz_St → Prop) {kn2 : Int32 → zz_St → Prop} (hkn2 : ∀ (x1 : Int32) (u : zz_St) (H : Heap) (locs : List Loc) (ls : Array Slot), zz_Wd D zz_cl A s.heap H locs (gw_M cI cZ cL a u) → lv_has ls 3 [(0, .ref (a 0)), (1, .int x1)] → kn2 x1 u → W p l e (rm_M_spell) s m args below meth c H locs 0 0 (MQ below (va_Qv post (zz_B D zz_cl (zz_ty cI cZ cL) (gw_M cI cZ cL a) A) A) args s 0 0 A) (F0 m 2 ls [])) : ∀ (x1 : Int32) (u : zz_St) (H : Heap) (locs : List Loc) (ls : Array Slot), zz_Wd D zz_cl A s.heap H locs (gw_M cI cZ cL a u) → lv_has ls 3 [(0, .ref (a 0)), (1, .int x1)] → wp_M_spell_2 post kn2 x1 u → W p l e (rm_M_spell) s m args below meth c H locs 0 0 (MQ below (va_Qv post (zz_B D zz_cl (zz_ty cI cZ cL) (gw_M cI cZ cL a) A) A) args s 0 0 A) (F0 m 2 ls []) := by
  intro x1 u H locs ls hw hl h
  unfold wp_M_spell_2 at h
  obtain ⟨hx, hb, hr, hml, hown, hts, hlk, hK, hA⟩ := id cx
  refine lv_iload_n hx hb d_M_spell_2 rfl (lv_at hl 1 rfl) ?_
  refine lv_bipush (v := 36) hx hb d_M_spell_3 (by decide) ?_
  refine lv_icmp_ge (tgt := 26) hx hb d_M_spell_5 (by decide) (fun c1 => ?_) (fun c1 => ?_)
  · replace h := h.1 c1
    refine lv_iconst (v := 0) hx hb d_M_spell_26 (by decide) ?_
    refine lv_istore_n (lv' := [(1, .int 0), (0, .ref (a 0))]) hx hb d_M_spell_27 rfl hl (by decide) rfl (fun ls hl => ?_)
    obtain ⟨n, h⟩ := h
    exact wk_M_spell_28_f cx post  n 0 u _ _ _ hw (lv_sub hl [1, 0] rfl) h
  · replace h := h.2 c1
    refine lv_aload_n hx hb d_M_spell_8 rfl (lv_at hl 0 rfl) ?_
    refine zz_get (v2 := .ref (a 13)) cx hw in_M 0 rfl rfl 22 (by decide) kw_342 rfl rfl d_M_spell_9 ?_
    refine lv_iload_n hx hb d_M_spell_12 rfl (lv_at hl 1 rfl) ?_
    refine lv_aload_n hx hb d_M_spell_13 rfl (lv_at hl 0 rfl) ?_
    refine zz_get (v2 := .ref (a 2)) cx hw in_M 0 rfl rfl 4 (by decide) kw_320 rfl rfl d_M_spell_14 ?_
    refine lv_iload_n hx hb d_M_spell_17 rfl (lv_at hl 1 rfl) ?_
    obtain ⟨hi, h⟩ := h
    refine zz_iald (f2 := sg_a u 1) cx hw 2 0 rfl rfl hi rfl d_M_spell_18 ?_
    refine lv_topi (fun v2 ev2 => ?_)
    replace h := h v2 ev2
    obtain ⟨hi, h⟩ := h
    refine zz_iast (ws' := gw_M cI cZ cL a (ss_a u 12 (upd (sg_a u 12) x1.toNatClampNeg v2))) cx hw 13 0 rfl rfl hi rfl (gw_M_a12 _ _ _ _ _ _) d_M_spell_19 (fun H locs hw => ?_)
    refine lv_iinc (v := x1 + 1) (lv' := [(1, .int (x1 + 1)), (0, .ref (a 0))]) hx hb d_M_spell_20 hl (k := 1) rfl rfl (by decide) rfl (fun ls hl => ?_)
    refine lv_goto (tgt := 2) hx hb d_M_spell_23 (by decide) ?_
    exact hkn2 (x1 + 1) (ss_a u 12 (upd (sg_a u 12) x1.toNatClampNeg v2)) _ _ _ hw (lv_sub hl [1, 0] rfl) h
set_option maxRecDepth 100000 in
set_option maxHeartbeats 4000000 in
theorem wk_M_spell_2_f {p : Program} {l : Launch} {e : Env} {s : State} {m : MethodId} {args : Array Value} {below : List Frame} {meth : Method} {c : Code} {A : Nat → Prop} {D : va_G} {cI cZ cL : ClassId} {a : Nat → Nat} (cx : zz_Cx p s m args meth c "GridFillsModel" b_M_spell 3 none D zz_cl (zz_ty cI cZ cL) A) (post : zz_St → Prop) : ∀ n : Nat, ∀ (x1 : Int32) (u : zz_St) (H : Heap) (locs : List Loc) (ls : Array Slot), zz_Wd D zz_cl A s.heap H locs (gw_M cI cZ cL a u) → lv_has ls 3 [(0, .ref (a 0)), (1, .int x1)] → wp_M_spell_2_f post n x1 u → W p l e (rm_M_spell) s m args below meth c H locs 0 0 (MQ below (va_Qv post (zz_B D zz_cl (zz_ty cI cZ cL) (gw_M cI cZ cL a) A) A) args s 0 0 A) (F0 m 2 ls []) := by
  intro n
  induction n with
  | zero => exact fun _ _ _ _ _ _ _ h => False.elim h
  | succ n ih => exact wk_M_spell_2 cx post ih
set_option maxRecDepth 100000 in
set_option maxHeartbeats 4000000 in
theorem ct_M_spell (l : Launch) (D : va_G) (cI cZ cL : ClassId) (a : Nat → Nat) {u : zz_St} {post : zz_St → Prop} (h : wp_M_spell  u post) : zz_MV l y_M_spell (.code y_M_spell b_M_spell 3 none :: zz_tbl) (rm_M_spell) D zz_cl (zz_ty cI cZ cL) (gw_M cI cZ cL a) [.ref (a 0)] u post := by
  unfold wp_M_spell at h
  refine zz_ofV (by decide) (Nat.le_of_ble_eq_true rfl) ?_
  intro p e s m below meth c A cx hw ls hl
  obtain ⟨hx, hb, hr, hml, hown, hts, hlk, hK, hA⟩ := id cx
  refine lv_iconst (v := 0) hx hb d_M_spell_0 (by decide) ?_
  refine lv_istore_n (lv' := [(1, .int 0), (0, .ref (a 0))]) hx hb d_M_spell_1 rfl hl (by decide) rfl (fun ls hl => ?_)
  obtain ⟨n, h⟩ := h
  exact wk_M_spell_2_f cx post  n 0 u _ _ _ hw (lv_sub hl [1, 0] rfl) h
set_option maxRecDepth 100000 in
set_option maxHeartbeats 4000000 in
theorem wk_M_isUsed_2 {p : Program} {l : Launch} {e : Env} {s : State} {m : MethodId} {args : Array Value} {below : List Frame} {meth : Method} {c : Code} {A : Nat → Prop} {D : va_G} {cI cZ cL : ClassId} {a : Nat → Nat} (cx : zz_Cx p s m args meth c "GridFillsModel" b_M_isUsed 3 (some .boolean) D zz_cl (zz_ty cI cZ cL) A) (post : Int32 → zz_St → Prop) {kn2 : Int32 → Int32 → zz_St → Prop} (hkn2 : ∀ (x1 : Int32) (x2 : Int32) (u : zz_St) (H : Heap) (locs : List Loc) (ls : Array Slot), zz_Wd D zz_cl A s.heap H locs (gw_M cI cZ cL a u) → lv_has ls 3 [(0, .ref (a 0)), (1, .int x1), (2, .int x2)] → kn2 x1 x2 u → W p l e (rm_M_isUsed) s m args below meth c H locs 0 0 (MQ below (va_Qi post (zz_B D zz_cl (zz_ty cI cZ cL) (gw_M cI cZ cL a) A) A) args s 0 0 A) (F0 m 2 ls [])) : ∀ (x1 : Int32) (x2 : Int32) (u : zz_St) (H : Heap) (locs : List Loc) (ls : Array Slot), zz_Wd D zz_cl A s.heap H locs (gw_M cI cZ cL a u) → lv_has ls 3 [(0, .ref (a 0)), (1, .int x1), (2, .int x2)] → wp_M_isUsed_2 post kn2 x1 x2 u → W p l e (rm_M_isUsed) s m args below meth c H locs 0 0 (MQ below (va_Qi post (zz_B D zz_cl (zz_ty cI cZ cL) (gw_M cI cZ cL a) A) A) args s 0 0 A) (F0 m 2 ls []) := by
  intro x1 x2 u H locs ls hw hl h
  unfold wp_M_isUsed_2 at h
  obtain ⟨hx, hb, hr, hml, hown, hts, hlk, hK, hA⟩ := id cx
  refine lv_iload_n hx hb d_M_isUsed_2 rfl (lv_at hl 2 rfl) ?_
  refine lv_aload_n hx hb d_M_isUsed_3 rfl (lv_at hl 0 rfl) ?_
  refine zz_get (v2 := .int (sg_i u 5)) cx hw in_M 0 rfl rfl 11 (by decide) kw_304 rfl rfl d_M_isUsed_4 ?_
  refine lv_icmp_ge (tgt := 28) hx hb d_M_isUsed_7 (by decide) (fun c1 => ?_) (fun c1 => ?_)
  · replace h := h.1 c1
    refine lv_iconst (v := 0) hx hb d_M_isUsed_28 (by decide) ?_
    exact zz_retz cx hw d_M_isUsed_29 (by decide) h
  · replace h := h.2 c1
    refine lv_aload_n hx hb d_M_isUsed_10 rfl (lv_at hl 0 rfl) ?_
    refine zz_get (v2 := .ref (a 11)) cx hw in_M 0 rfl rfl 17 (by decide) kw_343 rfl rfl d_M_isUsed_11 ?_
    refine lv_iload_n hx hb d_M_isUsed_14 rfl (lv_at hl 2 rfl) ?_
    obtain ⟨hi, h⟩ := h
    refine zz_iald (f2 := sg_a u 10) cx hw 11 0 rfl rfl hi rfl d_M_isUsed_15 ?_
    refine lv_iload_n hx hb d_M_isUsed_16 rfl (lv_at hl 1 rfl) ?_
    refine lv_icmp_ne (tgt := 22) hx hb d_M_isUsed_17 (by decide) (fun c2 => ?_) (fun c2 => ?_)
    · replace h := h.2 c2
      refine lv_iinc (v := x2 + 1) (lv' := [(2, .int (x2 + 1)), (0, .ref (a 0)), (1, .int x1)]) hx hb d_M_isUsed_22 hl (k := 2) rfl rfl (by decide) rfl (fun ls hl => ?_)
      refine lv_goto (tgt := 2) hx hb d_M_isUsed_25 (by decide) ?_
      exact hkn2 x1 (x2 + 1) u _ _ _ hw (lv_sub hl [1, 2, 0] rfl) h
    · replace h := h.1 c2
      refine lv_iconst (v := 1) hx hb d_M_isUsed_20 (by decide) ?_
      exact zz_retz cx hw d_M_isUsed_21 (by decide) h
set_option maxRecDepth 100000 in
set_option maxHeartbeats 4000000 in
theorem wk_M_isUsed_2_f {p : Program} {l : Launch} {e : Env} {s : State} {m : MethodId} {args : Array Value} {below : List Frame} {meth : Method} {c : Code} {A : Nat → Prop} {D : va_G} {cI cZ cL : ClassId} {a : Nat → Nat} (cx : zz_Cx p s m args meth c "GridFillsModel" b_M_isUsed 3 (some .boolean) D zz_cl (zz_ty cI cZ cL) A) (post : Int32 → zz_St → Prop) : ∀ n : Nat, ∀ (x1 : Int32) (x2 : Int32) (u : zz_St) (H : Heap) (locs : List Loc) (ls : Array Slot), zz_Wd D zz_cl A s.heap H locs (gw_M cI cZ cL a u) → lv_has ls 3 [(0, .ref (a 0)), (1, .int x1), (2, .int x2)] → wp_M_isUsed_2_f post n x1 x2 u → W p l e (rm_M_isUsed) s m args below meth c H locs 0 0 (MQ below (va_Qi post (zz_B D zz_cl (zz_ty cI cZ cL) (gw_M cI cZ cL a) A) A) args s 0 0 A) (F0 m 2 ls []) := by
  intro n
  induction n with
  | zero => exact fun _ _ _ _ _ _ _ _ h => False.elim h
  | succ n ih => exact wk_M_isUsed_2 cx post ih
set_option maxRecDepth 100000 in
set_option maxHeartbeats 4000000 in
theorem ct_M_isUsed (l : Launch) (D : va_G) (cI cZ cL : ClassId) (a : Nat → Nat) {a0 : Int32} {u : zz_St} {post : Int32 → zz_St → Prop} (h : wp_M_isUsed  a0 u post) : zz_MI l y_M_isUsed (.code y_M_isUsed b_M_isUsed 3 (some .boolean) :: zz_tbl) (rm_M_isUsed) D zz_cl (zz_ty cI cZ cL) (gw_M cI cZ cL a) [.ref (a 0), .int a0] u post := by
  unfold wp_M_isUsed at h
  refine zz_ofI (by decide) (Nat.le_of_ble_eq_true rfl) ?_
  intro p e s m below meth c A cx hw ls hl
  obtain ⟨hx, hb, hr, hml, hown, hts, hlk, hK, hA⟩ := id cx
  refine lv_iconst (v := 0) hx hb d_M_isUsed_0 (by decide) ?_
  refine lv_istore_n (lv' := [(2, .int 0), (0, .ref (a 0)), (1, .int a0)]) hx hb d_M_isUsed_1 rfl hl (by decide) rfl (fun ls hl => ?_)
  obtain ⟨n, h⟩ := h
  exact wk_M_isUsed_2_f cx post  n a0 0 u _ _ _ hw (lv_sub hl [1, 2, 0] rfl) h
set_option maxRecDepth 100000 in
set_option maxHeartbeats 4000000 in
theorem wk_M_mayHave_93 {p : Program} {l : Launch} {e : Env} {s : State} {m : MethodId} {args : Array Value} {below : List Frame} {meth : Method} {c : Code} {A : Nat → Prop} {D : va_G} {cI cZ cL : ClassId} {a : Nat → Nat} (cx : zz_Cx p s m args meth c "GridFillsModel" b_M_mayHave 5 (some .boolean) D zz_cl (zz_ty cI cZ cL) A) (post : Int32 → zz_St → Prop) {kn47 : Int32 → Int32 → Int32 → zz_St → Prop} (hkn47 : ∀ (x1 : Int32) (x2 : Int32) (x3 : Int32) (u : zz_St) (H : Heap) (locs : List Loc) (ls : Array Slot), zz_Wd D zz_cl A s.heap H locs (gw_M cI cZ cL a u) → lv_has ls 5 [(0, .ref (a 0)), (1, .int x1), (2, .int x2), (3, .int x3)] → kn47 x1 x2 x3 u → W p l e (rm_M_mayHave) s m args below meth c H locs 0 0 (MQ below (va_Qi post (zz_B D zz_cl (zz_ty cI cZ cL) (gw_M cI cZ cL a) A) A) args s 0 0 A) (F0 m 47 ls [])) : ∀ (x1 : Int32) (x2 : Int32) (x3 : Int32) (u : zz_St) (H : Heap) (locs : List Loc) (ls : Array Slot), zz_Wd D zz_cl A s.heap H locs (gw_M cI cZ cL a u) → lv_has ls 5 [(0, .ref (a 0)), (1, .int x1), (2, .int x2), (3, .int x3)] → wp_M_mayHave_93 post kn47 x1 x2 x3 u → W p l e (rm_M_mayHave) s m args below meth c H locs 0 0 (MQ below (va_Qi post (zz_B D zz_cl (zz_ty cI cZ cL) (gw_M cI cZ cL a) A) A) args s 0 0 A) (F0 m 93 ls []) := by
  intro x1 x2 x3 u H locs ls hw hl h
  unfold wp_M_mayHave_93 at h
  obtain ⟨hx, hb, hr, hml, hown, hts, hlk, hK, hA⟩ := id cx
  refine lv_iinc (v := x3 + 1) (lv' := [(3, .int (x3 + 1)), (0, .ref (a 0)), (1, .int x1), (2, .int x2)]) hx hb d_M_mayHave_93 hl (k := 3) rfl rfl (by decide) rfl (fun ls hl => ?_)
  refine lv_goto (tgt := 47) hx hb d_M_mayHave_96 (by decide) ?_
  exact hkn47 x1 x2 (x3 + 1) u _ _ _ hw (lv_sub hl [1, 2, 3, 0] rfl) h
set_option maxRecDepth 100000 in
set_option maxHeartbeats 4000000 in
theorem wk_M_mayHave_47 {p : Program} {l : Launch} {e : Env} {s : State} {m : MethodId} {args : Array Value} {below : List Frame} {meth : Method} {c : Code} {A : Nat → Prop} {D : va_G} {cI cZ cL : ClassId} {a : Nat → Nat} (cx : zz_Cx p s m args meth c "GridFillsModel" b_M_mayHave 5 (some .boolean) D zz_cl (zz_ty cI cZ cL) A) (post : Int32 → zz_St → Prop) {kn47 : Int32 → Int32 → Int32 → zz_St → Prop} (hkn47 : ∀ (x1 : Int32) (x2 : Int32) (x3 : Int32) (u : zz_St) (H : Heap) (locs : List Loc) (ls : Array Slot), zz_Wd D zz_cl A s.heap H locs (gw_M cI cZ cL a u) → lv_has ls 5 [(0, .ref (a 0)), (1, .int x1), (2, .int x2), (3, .int x3)] → kn47 x1 x2 x3 u → W p l e (rm_M_mayHave) s m args below meth c H locs 0 0 (MQ below (va_Qi post (zz_B D zz_cl (zz_ty cI cZ cL) (gw_M cI cZ cL a) A) A) args s 0 0 A) (F0 m 47 ls [])) : ∀ (x1 : Int32) (x2 : Int32) (x3 : Int32) (u : zz_St) (H : Heap) (locs : List Loc) (ls : Array Slot), zz_Wd D zz_cl A s.heap H locs (gw_M cI cZ cL a u) → lv_has ls 5 [(0, .ref (a 0)), (1, .int x1), (2, .int x2), (3, .int x3)] → wp_M_mayHave_47 post kn47 x1 x2 x3 u → W p l e (rm_M_mayHave) s m args below meth c H locs 0 0 (MQ below (va_Qi post (zz_B D zz_cl (zz_ty cI cZ cL) (gw_M cI cZ cL a) A) A) args s 0 0 A) (F0 m 47 ls []) := by
  intro x1 x2 x3 u H locs ls hw hl h
  unfold wp_M_mayHave_47 at h
  obtain ⟨hx, hb, hr, hml, hown, hts, hlk, hK, hA⟩ := id cx
  refine lv_iload_n hx hb d_M_mayHave_47 rfl (lv_at hl 3 rfl) ?_
  refine lv_aload_n hx hb d_M_mayHave_48 rfl (lv_at hl 0 rfl) ?_
  refine zz_get (v2 := .ref (a 8)) cx hw in_M 0 rfl rfl 13 (by decide) kw_307 rfl rfl d_M_mayHave_49 ?_
  refine lv_iload_n hx hb d_M_mayHave_52 rfl (lv_at hl 1 rfl) ?_
  obtain ⟨hi, h⟩ := h
  refine zz_iald (f2 := sg_a u 7) cx hw 8 0 rfl rfl hi rfl d_M_mayHave_53 ?_
  refine lv_icmp_ge (tgt := 99) hx hb d_M_mayHave_54 (by decide) (fun c7 => ?_) (fun c7 => ?_)
  · replace h := h.1 c7
    refine lv_iconst (v := 1) hx hb d_M_mayHave_99 (by decide) ?_
    exact zz_retz cx hw d_M_mayHave_100 (by decide) h
  · replace h := h.2 c7
    refine lv_aload_n hx hb d_M_mayHave_57 rfl (lv_at hl 0 rfl) ?_
    refine zz_get (v2 := .ref (a 13)) cx hw in_M 0 rfl rfl 22 (by decide) kw_342 rfl rfl d_M_mayHave_58 ?_
    refine lv_aload_n hx hb d_M_mayHave_61 rfl (lv_at hl 0 rfl) ?_
    refine lv_iload_n hx hb d_M_mayHave_62 rfl (lv_at hl 1 rfl) ?_
    refine lv_iload_n hx hb d_M_mayHave_63 rfl (lv_at hl 3 rfl) ?_
    refine zz_callVi (As := [.int x1, .int x3]) (rest := [.ref (a 13)]) cx hw (ct_M_cellOf l D cI cZ cL a h) (zz_gV kw_344 kw_346 kw_347 kw_301 kw_345) hd_M_cellOf ⟨rfl, rfl⟩ ⟨Nat.le_of_ble_eq_true rfl, Nat.le_of_ble_eq_true rfl⟩ 0 rfl rfl rfl rfl hl.1 rfl (Nat.le_of_ble_eq_true rfl) d_M_mayHave_64 (fun r9 s8 H locs h hw => ?_)
    obtain ⟨hi, h⟩ := h
    refine zz_iald (f2 := sg_a s8 12) cx hw 13 0 rfl rfl hi rfl d_M_mayHave_67 ?_
    refine lv_topi (fun v10 ev10 => ?_)
    replace h := h v10 ev10
    refine lv_istore (lv' := [(4, .int v10), (0, .ref (a 0)), (1, .int x1), (2, .int x2), (3, .int x3)]) hx hb d_M_mayHave_68 hl (by decide) rfl (fun ls hl => ?_)
    refine lv_iload hx hb d_M_mayHave_70 (lv_at hl 0 rfl) ?_
    refine lv_if_eq (tgt := 93) hx hb d_M_mayHave_72 (by decide) (fun c11 => ?_) (fun c11 => ?_)
    · replace h := h.1 c11
      exact wk_M_mayHave_93 cx post hkn47 x1 x2 x3 s8 _ _ _ hw (lv_sub hl [1, 2, 3, 4] rfl) h
    · replace h := h.2 c11
      refine lv_iload hx hb d_M_mayHave_75 (lv_at hl 0 rfl) ?_
      refine lv_aload_n hx hb d_M_mayHave_77 rfl (lv_at hl 1 rfl) ?_
      refine zz_get (v2 := .ref (a 5)) cx hw in_M 0 rfl rfl 9 (by decide) kw_327 rfl rfl d_M_mayHave_78 ?_
      refine lv_bipush (v := 6) hx hb d_M_mayHave_81 (by decide) ?_
      refine lv_iload_n hx hb d_M_mayHave_83 rfl (lv_at hl 3 rfl) ?_
      refine lv_imul hx hb d_M_mayHave_84 ?_
      refine lv_iload_n hx hb d_M_mayHave_85 rfl (lv_at hl 4 rfl) ?_
      refine lv_iadd hx hb d_M_mayHave_86 ?_
      obtain ⟨hi, h⟩ := h
      refine zz_iald (f2 := sg_a s8 4) cx hw 5 0 rfl rfl hi rfl d_M_mayHave_87 ?_
      refine lv_icmp_eq (tgt := 93) hx hb d_M_mayHave_88 (by decide) (fun c12 => ?_) (fun c12 => ?_)
      · replace h := h.1 c12
        exact wk_M_mayHave_93 cx post hkn47 x1 x2 x3 s8 _ _ _ hw (lv_sub hl [1, 2, 3, 4] rfl) h
      · replace h := h.2 c12
        refine lv_iconst (v := 0) hx hb d_M_mayHave_91 (by decide) ?_
        exact zz_retz cx hw d_M_mayHave_92 (by decide) h
set_option maxRecDepth 100000 in
set_option maxHeartbeats 4000000 in
theorem wk_M_mayHave_47_f {p : Program} {l : Launch} {e : Env} {s : State} {m : MethodId} {args : Array Value} {below : List Frame} {meth : Method} {c : Code} {A : Nat → Prop} {D : va_G} {cI cZ cL : ClassId} {a : Nat → Nat} (cx : zz_Cx p s m args meth c "GridFillsModel" b_M_mayHave 5 (some .boolean) D zz_cl (zz_ty cI cZ cL) A) (post : Int32 → zz_St → Prop) : ∀ n : Nat, ∀ (x1 : Int32) (x2 : Int32) (x3 : Int32) (u : zz_St) (H : Heap) (locs : List Loc) (ls : Array Slot), zz_Wd D zz_cl A s.heap H locs (gw_M cI cZ cL a u) → lv_has ls 5 [(0, .ref (a 0)), (1, .int x1), (2, .int x2), (3, .int x3)] → wp_M_mayHave_47_f post n x1 x2 x3 u → W p l e (rm_M_mayHave) s m args below meth c H locs 0 0 (MQ below (va_Qi post (zz_B D zz_cl (zz_ty cI cZ cL) (gw_M cI cZ cL a) A) A) args s 0 0 A) (F0 m 47 ls []) := by
  intro n
  induction n with
  | zero => exact fun _ _ _ _ _ _ _ _ _ h => False.elim h
  | succ n ih => exact wk_M_mayHave_47 cx post ih
set_option maxRecDepth 100000 in
set_option maxHeartbeats 4000000 in
theorem wk_M_mayHave_35 {p : Program} {l : Launch} {e : Env} {s : State} {m : MethodId} {args : Array Value} {below : List Frame} {meth : Method} {c : Code} {A : Nat → Prop} {D : va_G} {cI cZ cL : ClassId} {a : Nat → Nat} (cx : zz_Cx p s m args meth c "GridFillsModel" b_M_mayHave 5 (some .boolean) D zz_cl (zz_ty cI cZ cL) A) (post : Int32 → zz_St → Prop) : ∀ (x1 : Int32) (x2 : Int32) (u : zz_St) (H : Heap) (locs : List Loc) (ls : Array Slot), zz_Wd D zz_cl A s.heap H locs (gw_M cI cZ cL a u) → lv_has ls 5 [(0, .ref (a 0)), (1, .int x1), (2, .int x2)] → wp_M_mayHave_35 post x1 x2 u → W p l e (rm_M_mayHave) s m args below meth c H locs 0 0 (MQ below (va_Qi post (zz_B D zz_cl (zz_ty cI cZ cL) (gw_M cI cZ cL a) A) A) args s 0 0 A) (F0 m 35 ls []) := by
  intro x1 x2 u H locs ls hw hl h
  unfold wp_M_mayHave_35 at h
  obtain ⟨hx, hb, hr, hml, hown, hts, hlk, hK, hA⟩ := id cx
  refine lv_aload_n hx hb d_M_mayHave_35 rfl (lv_at hl 0 rfl) ?_
  refine lv_iload_n hx hb d_M_mayHave_36 rfl (lv_at hl 2 rfl) ?_
  refine zz_callVi (As := [.int x2]) (rest := []) cx hw (ct_M_isUsed l D cI cZ cL a h) (zz_gV kw_348 kw_350 kw_351 kw_301 kw_349) hd_M_isUsed ⟨rfl, rfl⟩ ⟨Nat.le_of_ble_eq_true rfl, Nat.le_of_ble_eq_true rfl⟩ 0 rfl rfl rfl rfl hl.1 rfl (Nat.le_of_ble_eq_true rfl) d_M_mayHave_37 (fun r5 s4 H locs h hw => ?_)
  refine lv_if_eq (tgt := 45) hx hb d_M_mayHave_40 (by decide) (fun c6 => ?_) (fun c6 => ?_)
  · replace h := h.1 c6
    refine lv_iconst (v := 0) hx hb d_M_mayHave_45 (by decide) ?_
    refine lv_istore_n (lv' := [(3, .int 0), (0, .ref (a 0)), (1, .int x1), (2, .int x2)]) hx hb d_M_mayHave_46 rfl hl (by decide) rfl (fun ls hl => ?_)
    obtain ⟨n, h⟩ := h
    exact wk_M_mayHave_47_f cx post  n x1 x2 0 s4 _ _ _ hw (lv_sub hl [1, 2, 3, 0] rfl) h
  · replace h := h.2 c6
    refine lv_iconst (v := 0) hx hb d_M_mayHave_43 (by decide) ?_
    exact zz_retz cx hw d_M_mayHave_44 (by decide) h
set_option maxRecDepth 100000 in
set_option maxHeartbeats 4000000 in
theorem ct_M_mayHave (l : Launch) (D : va_G) (cI cZ cL : ClassId) (a : Nat → Nat) {a0 : Int32} {a1 : Int32} {u : zz_St} {post : Int32 → zz_St → Prop} (h : wp_M_mayHave  a0 a1 u post) : zz_MI l y_M_mayHave (.code y_M_mayHave b_M_mayHave 5 (some .boolean) :: zz_tbl) (rm_M_mayHave) D zz_cl (zz_ty cI cZ cL) (gw_M cI cZ cL a) [.ref (a 0), .int a0, .int a1] u post := by
  unfold wp_M_mayHave at h
  refine zz_ofI (by decide) (Nat.le_of_ble_eq_true rfl) ?_
  intro p e s m below meth c A cx hw ls hl
  obtain ⟨hx, hb, hr, hml, hown, hts, hlk, hK, hA⟩ := id cx
  refine lv_aload_n hx hb d_M_mayHave_0 rfl (lv_at hl 0 rfl) ?_
  refine zz_get (v2 := .ref (a 4)) cx hw in_M 0 rfl rfl 8 (by decide) kw_326 rfl rfl d_M_mayHave_1 ?_
  refine lv_iload_n hx hb d_M_mayHave_4 rfl (lv_at hl 2 rfl) ?_
  obtain ⟨hi, h⟩ := h
  refine zz_iald (f2 := sg_a u 3) cx hw 4 0 rfl rfl hi rfl d_M_mayHave_5 ?_
  refine lv_aload_n hx hb d_M_mayHave_6 rfl (lv_at hl 0 rfl) ?_
  refine zz_get (v2 := .ref (a 8)) cx hw in_M 0 rfl rfl 13 (by decide) kw_307 rfl rfl d_M_mayHave_7 ?_
  refine lv_iload_n hx hb d_M_mayHave_10 rfl (lv_at hl 1 rfl) ?_
  obtain ⟨hi, h⟩ := h
  refine zz_iald (f2 := sg_a u 7) cx hw 8 0 rfl rfl hi rfl d_M_mayHave_11 ?_
  refine lv_icmp_ne (tgt := 43) hx hb d_M_mayHave_12 (by decide) (fun c1 => ?_) (fun c1 => ?_)
  · replace h := h.2 c1
    refine lv_iconst (v := 0) hx hb d_M_mayHave_43 (by decide) ?_
    exact zz_retz cx hw d_M_mayHave_44 (by decide) h
  · replace h := h.1 c1
    refine lv_aload_n hx hb d_M_mayHave_15 rfl (lv_at hl 0 rfl) ?_
    refine zz_get (v2 := .ref (a 10)) cx hw in_M 0 rfl rfl 15 (by decide) kw_313 rfl rfl d_M_mayHave_16 ?_
    refine lv_iload_n hx hb d_M_mayHave_19 rfl (lv_at hl 1 rfl) ?_
    obtain ⟨hi, h⟩ := h
    refine zz_iald (f2 := sg_a u 9) cx hw 10 0 rfl rfl hi rfl d_M_mayHave_20 ?_
    refine lv_iconst (v := (-1)) hx hb d_M_mayHave_21 (by decide) ?_
    refine lv_icmp_eq (tgt := 35) hx hb d_M_mayHave_22 (by decide) (fun c2 => ?_) (fun c2 => ?_)
    · replace h := h.1 c2
      exact wk_M_mayHave_35 cx post  a0 a1 u _ _ _ hw (lv_sub hl [0, 1, 2] rfl) h
    · replace h := h.2 c2
      refine lv_aload_n hx hb d_M_mayHave_25 rfl (lv_at hl 0 rfl) ?_
      refine zz_get (v2 := .ref (a 10)) cx hw in_M 0 rfl rfl 15 (by decide) kw_313 rfl rfl d_M_mayHave_26 ?_
      refine lv_iload_n hx hb d_M_mayHave_29 rfl (lv_at hl 1 rfl) ?_
      obtain ⟨hi, h⟩ := h
      refine zz_iald (f2 := sg_a u 9) cx hw 10 0 rfl rfl hi rfl d_M_mayHave_30 ?_
      refine lv_iload_n hx hb d_M_mayHave_31 rfl (lv_at hl 2 rfl) ?_
      refine lv_icmp_ne (tgt := 43) hx hb d_M_mayHave_32 (by decide) (fun c3 => ?_) (fun c3 => ?_)
      · replace h := h.2 c3
        refine lv_iconst (v := 0) hx hb d_M_mayHave_43 (by decide) ?_
        exact zz_retz cx hw d_M_mayHave_44 (by decide) h
      · replace h := h.1 c3
        exact wk_M_mayHave_35 cx post  a0 a1 u _ _ _ hw (lv_sub hl [0, 1, 2] rfl) h
