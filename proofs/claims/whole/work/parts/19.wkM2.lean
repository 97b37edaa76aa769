set_option maxRecDepth 100000 in
set_option maxHeartbeats 4000000 in
theorem wk_M_countFor_27 {p : Program} {l : Launch} {e : Env} {s : State} {m : MethodId} {args : Array Value} {below : List Frame} {meth : Method} {c : Code} {A : Nat → Prop} {D : va_G} {cI cZ cL : ClassId} {a : Nat → Nat} (cx : zz_Cx p s m args meth c "GridFillsModel" b_M_countFor 4 (some .int) D zz_cl (zz_ty cI cZ cL) A) (post : Int32 → zz_St → Prop) {kn4 : Int32 → Int32 → Int32 → zz_St → Prop} (hkn4 : ∀ (x1 : Int32) (x2 : Int32) (x3 : Int32) (u : zz_St) (H : Heap) (locs : List Loc) (ls : Array Slot), zz_Wd D zz_cl A s.heap H locs (gw_M cI cZ cL a u) → lv_has ls 4 [(0, .ref (a 0)), (1, .int x1), (2, .int x2), (3, .int x3)] → kn4 x1 x2 x3 u → W p l e (rm_M_countFor) s m args below meth c H locs 0 0 (MQ below (va_Qi post (zz_B D zz_cl (zz_ty cI cZ cL) (gw_M cI cZ cL a) A) A) args s 0 0 A) (F0 m 4 ls [])) : ∀ (x1 : Int32) (x3 : Int32) (y0 : Int32) (y1 : Int32) (u : zz_St) (H : Heap) (locs : List Loc) (ls : Array Slot), zz_Wd D zz_cl A s.heap H locs (gw_M cI cZ cL a u) → lv_has ls 4 [(0, .ref (a 0)), (1, .int x1), (3, .int x3)] → wp_M_countFor_27 post kn4 x1 x3 y0 y1 u → W p l e (rm_M_countFor) s m args below meth c H locs 0 0 (MQ below (va_Qi post (zz_B D zz_cl (zz_ty cI cZ cL) (gw_M cI cZ cL a) A) A) args s 0 0 A) (F0 m 27 ls [.int y0, .int y1]) := by
  intro x1 x3 y0 y1 u H locs ls hw hl h
  unfold wp_M_countFor_27 at h
  obtain ⟨hx, hb, hr, hml, hown, hts, hlk, hK, hA⟩ := id cx
  refine lv_iadd hx hb d_M_countFor_27 ?_
  refine lv_topi (fun v5 ev5 => ?_)
  replace h := h v5 ev5
  refine lv_istore_n (lv' := [(2, .int v5), (0, .ref (a 0)), (1, .int x1), (3, .int x3)]) hx hb d_M_countFor_28 rfl hl (by decide) rfl (fun ls hl => ?_)
  refine lv_iinc (v := x3 + 1) (lv' := [(3, .int (x3 + 1)), (2, .int v5), (0, .ref (a 0)), (1, .int x1)]) hx hb d_M_countFor_29 hl (k := 3) rfl rfl (by decide) rfl (fun ls hl => ?_)
  refine lv_goto (tgt := 4) hx hb d_M_countFor_32 (by decide) ?_
  exact hkn4 x1 v5 (x3 + 1) u _ _ _ hw (lv_sub hl [2, 3, 1, 0] rfl) h
set_option maxRecDepth 100000 in
set_option maxHeartbeats 4000000 in
theorem wk_M_countFor_4 {p : Program} {l : Launch} {e : Env} {s : State} {m : MethodId} {args : Array Value} {below : List Frame} {meth : Method} {c : Code} {A : Nat → Prop} {D : va_G} {cI cZ cL : ClassId} {a : Nat → Nat} (cx : zz_Cx p s m args meth c "GridFillsModel" b_M_countFor 4 (some .int) D zz_cl (zz_ty cI cZ cL) A) (post : Int32 → zz_St → Prop) {kn4 : Int32 → Int32 → Int32 → zz_St → Prop} (hkn4 : ∀ (x1 : Int32) (x2 : Int32) (x3 : Int32) (u : zz_St) (H : Heap) (locs : List Loc) (ls : Array Slot), zz_Wd D zz_cl A s.heap H locs (gw_M cI cZ cL a u) → lv_has ls 4 [(0, .ref (a 0)), (1, .int x1), (2, .int x2), (3, .int x3)] → kn4 x1 x2 x3 u → W p l e (rm_M_countFor) s m args below meth c H locs 0 0 (MQ below (va_Qi post (zz_B D zz_cl (zz_ty cI cZ cL) (gw_M cI cZ cL a) A) A) args s 0 0 A) (F0 m 4 ls [])) : ∀ (x1 : Int32) (x2 : Int32) (x3 : Int32) (u : zz_St) (H : Heap) (locs : List Loc) (ls : Array Slot), zz_Wd D zz_cl A s.heap H locs (gw_M cI cZ cL a u) → lv_has ls 4 [(0, .ref (a 0)), (1, .int x1), (2, .int x2), (3, .int x3)] → wp_M_countFor_4 post kn4 x1 x2 x3 u → W p l e (rm_M_countFor) s m args below meth c H locs 0 0 (MQ below (va_Qi post (zz_B D zz_cl (zz_ty cI cZ cL) (gw_M cI cZ cL a) A) A) args s 0 0 A) (F0 m 4 ls []) := by
  intro x1 x2 x3 u H locs ls hw hl h
  unfold wp_M_countFor_4 at h
  obtain ⟨hx, hb, hr, hml, hown, hts, hlk, hK, hA⟩ := id cx
  refine lv_iload_n hx hb d_M_countFor_4 rfl (lv_at hl 3 rfl) ?_
  refine lv_aload_n hx hb d_M_countFor_5 rfl (lv_at hl 0 rfl) ?_
  refine zz_get (v2 := .int (sg_i u 4)) cx hw in_M 0 rfl rfl 7 (by decide) kw_328 rfl rfl d_M_countFor_6 ?_
  refine lv_icmp_ge (tgt := 35) hx hb d_M_countFor_9 (by decide) (fun c1 => ?_) (fun c1 => ?_)
  · replace h := h.1 c1
    refine lv_iload_n hx hb d_M_countFor_35 rfl (lv_at hl 2 rfl) ?_
    exact zz_reti cx hw d_M_countFor_36 h
  · replace h := h.2 c1
    refine lv_iload_n hx hb d_M_countFor_12 rfl (lv_at hl 2 rfl) ?_
    refine lv_aload_n hx hb d_M_countFor_13 rfl (lv_at hl 0 rfl) ?_
    refine lv_iload_n hx hb d_M_countFor_14 rfl (lv_at hl 1 rfl) ?_
    refine lv_iload_n hx hb d_M_countFor_15 rfl (lv_at hl 3 rfl) ?_
    refine zz_callVi (As := [.int x1, .int x3]) (rest := [.int x2]) cx hw (ct_M_mayHave l D cI cZ cL a h) (zz_gV kw_352 kw_354 kw_355 kw_301 kw_353) hd_M_mayHave ⟨rfl, rfl⟩ ⟨Nat.le_of_ble_eq_true rfl, Nat.le_of_ble_eq_true rfl⟩ 0 rfl rfl rfl rfl hl.1 rfl (Nat.le_of_ble_eq_true rfl) d_M_countFor_16 (fun r3 s2 H locs h hw => ?_)
    refine lv_if_eq (tgt := 26) hx hb d_M_countFor_19 (by decide) (fun c4 => ?_) (fun c4 => ?_)
    · replace h := h.1 c4
      refine lv_iconst (v := 0) hx hb d_M_countFor_26 (by decide) ?_
      exact wk_M_countFor_27 cx post hkn4 x1 x3 0 x2 s2 _ _ _ hw (lv_sub hl [0, 1, 3] rfl) h
    · replace h := h.2 c4
      refine lv_iconst (v := 1) hx hb d_M_countFor_22 (by decide) ?_
      refine lv_goto (tgt := 27) hx hb d_M_countFor_23 (by decide) ?_
      exact wk_M_countFor_27 cx post hkn4 x1 x3 1 x2 s2 _ _ _ hw (lv_sub hl [0, 1, 3] rfl) h
set_option maxRecDepth 100000 in
set_option maxHeartbeats 4000000 in
theorem wk_M_countFor_4_f {p : Program} {l : Launch} {e : Env} {s : State} {m : MethodId} {args : Array Value} {below : List Frame} {meth : Method} {c : Code} {A : Nat → Prop} {D : va_G} {cI cZ cL : ClassId} {a : Nat → Nat} (cx : zz_Cx p s m args meth c "GridFillsModel" b_M_countFor 4 (some .int) D zz_cl (zz_ty cI cZ cL) A) (post : Int32 → zz_St → Prop) : ∀ n : Nat, ∀ (x1 : Int32) (x2 : Int32) (x3 : Int32) (u : zz_St) (H : Heap) (locs : List Loc) (ls : Array Slot), zz_Wd D zz_cl A s.heap H locs (gw_M cI cZ cL a u) → lv_has ls 4 [(0, .ref (a 0)), (1, .int x1), (2, .int x2), (3, .int x3)] → wp_M_countFor_4_f post n x1 x2 x3 u → W p l e (rm_M_countFor) s m args below meth c H locs 0 0 (MQ below (va_Qi post (zz_B D zz_cl (zz_ty cI cZ cL) (gw_M cI cZ cL a) A) A) args s 0 0 A) (F0 m 4 ls []) := by
  intro n
  induction n with
  | zero => exact fun _ _ _ _ _ _ _ _ _ h => False.elim h
  | succ n ih => exact wk_M_countFor_4 cx post ih
set_option maxRecDepth 100000 in
set_option maxHeartbeats 4000000 in
theorem ct_M_countFor (l : Launch) (D : va_G) (cI cZ cL : ClassId) (a : Nat → Nat) {a0 : Int32} {u : zz_St} {post : Int32 → zz_St → Prop} (h : wp_M_countFor  a0 u post) : zz_MI l y_M_countFor (.code y_M_countFor b_M_countFor 4 (some .int) :: zz_tbl) (rm_M_countFor) D zz_cl (zz_ty cI cZ cL) (gw_M cI cZ cL a) [.ref (a 0), .int a0] u post := by
  unfold wp_M_countFor at h
  refine zz_ofI (by decide) (Nat.le_of_ble_eq_true rfl) ?_
  intro p e s m below meth c A cx hw ls hl
  obtain ⟨hx, hb, hr, hml, hown, hts, hlk, hK, hA⟩ := id cx
  refine lv_iconst (v := 0) hx hb d_M_countFor_0 (by decide) ?_
  refine lv_istore_n (lv' := [(2, .int 0), (0, .ref (a 0)), (1, .int a0)]) hx hb d_M_countFor_1 rfl hl (by decide) rfl (fun ls hl => ?_)
  refine lv_iconst (v := 0) hx hb d_M_countFor_2 (by decide) ?_
  refine lv_istore_n (lv' := [(3, .int 0), (2, .int 0), (0, .ref (a 0)), (1, .int a0)]) hx hb d_M_countFor_3 rfl hl (by decide) rfl (fun ls hl => ?_)
  obtain ⟨n, h⟩ := h
  exact wk_M_countFor_4_f cx post  n a0 0 0 u _ _ _ hw (lv_sub hl [2, 3, 1, 0] rfl) h
set_option maxRecDepth 100000 in
set_option maxHeartbeats 4000000 in
theorem wk_M_clearNow_2 {p : Program} {l : Launch} {e : Env} {s : State} {m : MethodId} {args : Array Value} {below : List Frame} {meth : Method} {c : Code} {A : Nat → Prop} {D : va_G} {cI cZ cL : ClassId} {a : Nat → Nat} (cx : zz_Cx p s m args meth c "GridFillsModel" b_M_clearNow 2 none D zz_cl (zz_ty cI cZ cL) A) (post : zz_St → Prop) {kn2 : Int32 → zz_St → Prop} (hkn2 : ∀ (x1 : Int32) (u : zz_St) (H : Heap) (locs : List Loc) (ls : Array Slot), zz_Wd D zz_cl A s.heap H locs (gw_M cI cZ cL a u) → lv_has ls 2 [(0, .ref (a 0)), (1, .int x1)] → kn2 x1 u → W p l e (rm_M_clearNow) s m args below meth c H locs 0 0 (MQ below (va_Qv post (zz_B D zz_cl (zz_ty cI cZ cL) (gw_M cI cZ cL a) A) A) args s 0 0 A) (F0 m 2 ls [])) : ∀ (x1 : Int32) (u : zz_St) (H : Heap) (locs : List Loc) (ls : Array Slot), zz_Wd D zz_cl A s.heap H locs (gw_M cI cZ cL a u) → lv_has ls 2 [(0, .ref (a 0)), (1, .int x1)] → wp_M_clearNow_2 post kn2 x1 u → W p l e (rm_M_clearNow) s m args below meth c H locs 0 0 (MQ below (va_Qv post (zz_B D zz_cl (zz_ty cI cZ cL) (gw_M cI cZ cL a) A) A) args s 0 0 A) (F0 m 2 ls []) := by
  intro x1 u H locs ls hw hl h
  unfold wp_M_clearNow_2 at h
  obtain ⟨hx, hb, hr, hml, hown, hts, hlk, hK, hA⟩ := id cx
  refine lv_iload_n hx hb d_M_clearNow_2 rfl (lv_at hl 1 rfl) ?_
  refine lv_bipush (v := 36) hx hb d_M_clearNow_3 (by decide) ?_
  refine lv_icmp_ge (tgt := 21) hx hb d_M_clearNow_5 (by decide) (fun c1 => ?_) (fun c1 => ?_)
  · replace h := h.1 c1
    exact zz_retv cx hw d_M_clearNow_21 h
  · replace h := h.2 c1
    refine lv_aload_n hx hb d_M_clearNow_8 rfl (lv_at hl 0 rfl) ?_
    refine zz_get (v2 := .ref (a 11)) cx hw in_M 0 rfl rfl 17 (by decide) kw_343 rfl rfl d_M_clearNow_9 ?_
    refine lv_iload_n hx hb d_M_clearNow_12 rfl (lv_at hl 1 rfl) ?_
    refine lv_iconst (v := (-1)) hx hb d_M_clearNow_13 (by decide) ?_
    obtain ⟨hi, h⟩ := h
    refine zz_iast (ws' := gw_M cI cZ cL a (ss_a u 10 (upd (sg_a u 10) x1.toNatClampNeg (-1)))) cx hw 11 0 rfl rfl hi rfl (gw_M_a10 _ _ _ _ _ _) d_M_clearNow_14 (fun H locs hw => ?_)
    refine lv_iinc (v := x1 + 1) (lv' := [(1, .int (x1 + 1)), (0, .ref (a 0))]) hx hb d_M_clearNow_15 hl (k := 1) rfl rfl (by decide) rfl (fun ls hl => ?_)
    refine lv_goto (tgt := 2) hx hb d_M_clearNow_18 (by decide) ?_
    exact hkn2 (x1 + 1) (ss_a u 10 (upd (sg_a u 10) x1.toNatClampNeg (-1))) _ _ _ hw (lv_sub hl [1, 0] rfl) h
set_option maxRecDepth 100000 in
set_option maxHeartbeats 4000000 in
theorem wk_M_clearNow_2_f {p : Program} {l : Launch} {e : Env} {s : State} {m : MethodId} {args : Array Value} {below : List Frame} {meth : Method} {c : Code} {A : Nat → Prop} {D : va_G} {cI cZ cL : ClassId} {a : Nat → Nat} (cx : zz_Cx p s m args meth c "GridFillsModel" b_M_clearNow 2 none D zz_cl (zz_ty cI cZ cL) A) (post : zz_St → Prop) : ∀ n : Nat, ∀ (x1 : Int32) (u : zz_St) (H : Heap) (locs : List Loc) (ls : Array Slot), zz_Wd D zz_cl A s.heap H locs (gw_M cI cZ cL a u) → lv_has ls 2 [(0, .ref (a 0)), (1, .int x1)] → wp_M_clearNow_2_f post n x1 u → W p l e (rm_M_clearNow) s m args below meth c H locs 0 0 (MQ below (va_Qv post (zz_B D zz_cl (zz_ty cI cZ cL) (gw_M cI cZ cL a) A) A) args s 0 0 A) (F0 m 2 ls []) := by
  intro n
  induction n with
  | zero => exact fun _ _ _ _ _ _ _ h => False.elim h
  | succ n ih => exact wk_M_clearNow_2 cx post ih
set_option maxRecDepth 100000 in
set_option maxHeartbeats 4000000 in
theorem ct_M_clearNow (l : Launch) (D : va_G) (cI cZ cL : ClassId) (a : Nat → Nat) {u : zz_St} {post : zz_St → Prop} (h : wp_M_clearNow  u post) : zz_MV l y_M_clearNow (.code y_M_clearNow b_M_clearNow 2 none :: zz_tbl) (rm_M_clearNow) D zz_cl (zz_ty cI cZ cL) (gw_M cI cZ cL a) [.ref (a 0)] u post := by
  unfold wp_M_clearNow at h
  refine zz_ofV (by decide) (Nat.le_of_ble_eq_true rfl) ?_
  intro p e s m below meth c A cx hw ls hl
  obtain ⟨hx, hb, hr, hml, hown, hts, hlk, hK, hA⟩ := id cx
  refine lv_iconst (v := 0) hx hb d_M_clearNow_0 (by decide) ?_
  refine lv_istore_n (lv' := [(1, .int 0), (0, .ref (a 0))]) hx hb d_M_clearNow_1 rfl hl (by decide) rfl (fun ls hl => ?_)
  obtain ⟨n, h⟩ := h
  exact wk_M_clearNow_2_f cx post  n 0 u _ _ _ hw (lv_sub hl [1, 0] rfl) h
set_option maxRecDepth 100000 in
set_option maxHeartbeats 4000000 in
theorem ct_M_slot (l : Launch) (D : va_G) (cI cZ cL : ClassId) (a : Nat → Nat) {a0 : Int32} {a1 : Int32} {u : zz_St} {post : Int32 → zz_St → Prop} (h : wp_M_slot  a0 a1 u post) : zz_MI l y_M_slot (.code y_M_slot b_M_slot 3 (some .int) :: zz_tbl) (rm_M_slot) D zz_cl (zz_ty cI cZ cL) (gw_M cI cZ cL a) [.ref (a 0), .int a0, .int a1] u post := by
  unfold wp_M_slot at h
  refine zz_ofI (by decide) (Nat.le_of_ble_eq_true rfl) ?_
  intro p e s m below meth c A cx hw ls hl
  obtain ⟨hx, hb, hr, hml, hown, hts, hlk, hK, hA⟩ := id cx
  refine lv_aload_n hx hb d_M_slot_0 rfl (lv_at hl 0 rfl) ?_
  refine lv_iconst (v := 0) hx hb d_M_slot_1 (by decide) ?_
  refine zz_put (v := .int 0) (ws' := gw_M cI cZ cL a (ss_i u 0 0)) cx hw in_M ty_M tk_M nm_M 0 rfl rfl 0 (by decide) kw_314 rfl ⟨rfl, rfl⟩ (Nat.le_of_ble_eq_true rfl) (gw_M_i0 _ _ _ _ _ _) d_M_slot_2 (fun H locs hw => ?_)
  refine lv_aload_n hx hb d_M_slot_5 rfl (lv_at hl 0 rfl) ?_
  refine lv_iload_n hx hb d_M_slot_6 rfl (lv_at hl 1 rfl) ?_
  refine zz_callVi (As := [.int a0]) (rest := []) cx hw (ct_M_isSlot l D cI cZ cL a h) (zz_gV kw_338 kw_340 kw_341 kw_301 kw_339) hd_M_isSlot ⟨rfl, rfl⟩ ⟨Nat.le_of_ble_eq_true rfl, Nat.le_of_ble_eq_true rfl⟩ 0 rfl rfl rfl rfl hl.1 rfl (Nat.le_of_ble_eq_true rfl) d_M_slot_7 (fun r2 s1 H locs h hw => ?_)
  refine lv_if_ne (tgt := 15) hx hb d_M_slot_10 (by decide) (fun c3 => ?_) (fun c3 => ?_)
  · replace h := h.2 c3
    refine lv_iload_n hx hb d_M_slot_15 rfl (lv_at hl 2 rfl) ?_
    rcases zz_sw6_0 a1 with c_sw | c_sw | c_sw | c_sw | c_sw | c_sw | c_sw
    · replace h := h.1 c_sw
      refine lv_tableIn (tgt := 56) hx hb d_M_slot_16 (by rw [c_sw]; decide) (by rw [c_sw]; decide) (by rw [c_sw]; rfl) (by decide) ?_
      refine lv_aload_n hx hb d_M_slot_56 rfl (lv_at hl 0 rfl) ?_
      refine zz_get (v2 := .ref (a 7)) cx hw in_M 0 rfl rfl 12 (by decide) kw_306 rfl rfl d_M_slot_57 ?_
      refine lv_iload_n hx hb d_M_slot_60 rfl (lv_at hl 1 rfl) ?_
      obtain ⟨hi, h⟩ := h
      refine zz_iald (f2 := sg_a s1 6) cx hw 7 0 rfl rfl hi rfl d_M_slot_61 ?_
      exact zz_reti cx hw d_M_slot_62 h
    · replace h := h.2.1 c_sw
      refine lv_tableIn (tgt := 63) hx hb d_M_slot_16 (by rw [c_sw]; decide) (by rw [c_sw]; decide) (by rw [c_sw]; rfl) (by decide) ?_
      refine lv_aload_n hx hb d_M_slot_63 rfl (lv_at hl 0 rfl) ?_
      refine zz_get (v2 := .ref (a 8)) cx hw in_M 0 rfl rfl 13 (by decide) kw_307 rfl rfl d_M_slot_64 ?_
      refine lv_iload_n hx hb d_M_slot_67 rfl (lv_at hl 1 rfl) ?_
      obtain ⟨hi, h⟩ := h
      refine zz_iald (f2 := sg_a s1 7) cx hw 8 0 rfl rfl hi rfl d_M_slot_68 ?_
      exact zz_reti cx hw d_M_slot_69 h
    · replace h := h.2.2.1 c_sw
      refine lv_tableIn (tgt := 70) hx hb d_M_slot_16 (by rw [c_sw]; decide) (by rw [c_sw]; decide) (by rw [c_sw]; rfl) (by decide) ?_
      refine lv_iload_n hx hb d_M_slot_70 rfl (lv_at hl 1 rfl) ?_
      refine lv_aload_n hx hb d_M_slot_71 rfl (lv_at hl 0 rfl) ?_
      refine zz_get (v2 := .int (sg_i s1 6)) cx hw in_M 0 rfl rfl 16 (by decide) kw_305 rfl rfl d_M_slot_72 ?_
      refine lv_icmp_ge (tgt := 82) hx hb d_M_slot_75 (by decide) (fun c4 => ?_) (fun c4 => ?_)
      · replace h := h.1 c4
        refine lv_iconst (v := 1) hx hb d_M_slot_82 (by decide) ?_
        exact zz_reti cx hw d_M_slot_83 h
      · replace h := h.2 c4
        refine lv_iconst (v := 0) hx hb d_M_slot_78 (by decide) ?_
        refine lv_goto (tgt := 83) hx hb d_M_slot_79 (by decide) ?_
        exact zz_reti cx hw d_M_slot_83 h
    · replace h := h.2.2.2.1 c_sw
      refine lv_tableIn (tgt := 84) hx hb d_M_slot_16 (by rw [c_sw]; decide) (by rw [c_sw]; decide) (by rw [c_sw]; rfl) (by decide) ?_
      refine lv_aload_n hx hb d_M_slot_84 rfl (lv_at hl 0 rfl) ?_
      refine zz_get (v2 := .ref (a 10)) cx hw in_M 0 rfl rfl 15 (by decide) kw_313 rfl rfl d_M_slot_85 ?_
      refine lv_iload_n hx hb d_M_slot_88 rfl (lv_at hl 1 rfl) ?_
      obtain ⟨hi, h⟩ := h
      refine zz_iald (f2 := sg_a s1 9) cx hw 10 0 rfl rfl hi rfl d_M_slot_89 ?_
      exact zz_reti cx hw d_M_slot_90 h
    · replace h := h.2.2.2.2.1 c_sw
      refine lv_tableIn (tgt := 91) hx hb d_M_slot_16 (by rw [c_sw]; decide) (by rw [c_sw]; decide) (by rw [c_sw]; rfl) (by decide) ?_
      refine lv_aload_n hx hb d_M_slot_91 rfl (lv_at hl 0 rfl) ?_
      refine zz_callVv (As := []) (rest := []) cx hw (ct_M_clearNow l D cI cZ cL a h) (zz_gV kw_364 kw_366 kw_367 kw_301 kw_365) hd_M_clearNow ⟨rfl, rfl⟩ ⟨Nat.le_of_ble_eq_true rfl, Nat.le_of_ble_eq_true rfl⟩ 0 rfl rfl rfl rfl hl.1 rfl (Nat.le_of_ble_eq_true rfl) d_M_slot_92 (fun s5 H locs h hw => ?_)
      refine lv_aload_n hx hb d_M_slot_95 rfl (lv_at hl 0 rfl) ?_
      refine zz_callVv (As := []) (rest := []) cx hw (ct_M_spell l D cI cZ cL a h) (zz_gV kw_360 kw_362 kw_363 kw_301 kw_361) hd_M_spell ⟨rfl, rfl⟩ ⟨Nat.le_of_ble_eq_true rfl, Nat.le_of_ble_eq_true rfl⟩ 0 rfl rfl rfl rfl hl.1 rfl (Nat.le_of_ble_eq_true rfl) d_M_slot_96 (fun s6 H locs h hw => ?_)
      refine lv_aload_n hx hb d_M_slot_99 rfl (lv_at hl 0 rfl) ?_
      refine lv_iload_n hx hb d_M_slot_100 rfl (lv_at hl 1 rfl) ?_
      refine zz_callVi (As := [.int a0]) (rest := []) cx hw (ct_M_countFor l D cI cZ cL a h) (zz_gV kw_356 kw_358 kw_359 kw_301 kw_357) hd_M_countFor ⟨rfl, rfl⟩ ⟨Nat.le_of_ble_eq_true rfl, Nat.le_of_ble_eq_true rfl⟩ 0 rfl rfl rfl rfl hl.1 rfl (Nat.le_of_ble_eq_true rfl) d_M_slot_101 (fun r8 s7 H locs h hw => ?_)
      exact zz_reti cx hw d_M_slot_104 h
    · replace h := h.2.2.2.2.2.1 c_sw
      refine lv_tableIn (tgt := 105) hx hb d_M_slot_16 (by rw [c_sw]; decide) (by rw [c_sw]; decide) (by rw [c_sw]; rfl) (by decide) ?_
      refine lv_aload_n hx hb d_M_slot_105 rfl (lv_at hl 0 rfl) ?_
      refine zz_get (v2 := .int (sg_i s1 7)) cx hw in_M 0 rfl rfl 19 (by decide) kw_319 rfl rfl d_M_slot_106 ?_
      refine lv_if_eq (tgt := 121) hx hb d_M_slot_109 (by decide) (fun c9 => ?_) (fun c9 => ?_)
      · replace h := h.1 c9
        refine lv_iconst (v := (-1)) hx hb d_M_slot_121 (by decide) ?_
        exact zz_reti cx hw d_M_slot_122 h
      · replace h := h.2 c9
        refine lv_aload_n hx hb d_M_slot_112 rfl (lv_at hl 0 rfl) ?_
        refine zz_get (v2 := .ref (a 12)) cx hw in_M 0 rfl rfl 18 (by decide) kw_368 rfl rfl d_M_slot_113 ?_
        refine lv_iload_n hx hb d_M_slot_116 rfl (lv_at hl 1 rfl) ?_
        obtain ⟨hi, h⟩ := h
        refine zz_iald (f2 := sg_a s1 11) cx hw 12 0 rfl rfl hi rfl d_M_slot_117 ?_
        refine lv_goto (tgt := 122) hx hb d_M_slot_118 (by decide) ?_
        exact zz_reti cx hw d_M_slot_122 h
    · replace h := h.2.2.2.2.2.2 c_sw
      refine lv_tableOut (tgt := 123) hx hb d_M_slot_16 c_sw (by decide) ?_
      refine lv_iconst (v := (-1)) hx hb d_M_slot_123 (by decide) ?_
      exact zz_reti cx hw d_M_slot_124 h
  · replace h := h.1 c3
    refine lv_iconst (v := (-1)) hx hb d_M_slot_13 (by decide) ?_
    exact zz_reti cx hw d_M_slot_14 h
set_option maxRecDepth 100000 in
set_option maxHeartbeats 4000000 in
theorem ct_M_isBefore (l : Launch) (D : va_G) (cI cZ cL : ClassId) (a : Nat → Nat) {a0 : Int32} {a1 : Int32} {u : zz_St} {post : Int32 → zz_St → Prop} (h : wp_M_isBefore  a0 a1 u post) : zz_MI l y_M_isBefore (.code y_M_isBefore b_M_isBefore 3 (some .boolean) :: zz_tbl) (rm_M_isBefore) D zz_cl (zz_ty cI cZ cL) (gw_M cI cZ cL a) [.ref (a 0), .int a0, .int a1] u post := by
  unfold wp_M_isBefore at h
  refine zz_ofI (by decide) (Nat.le_of_ble_eq_true rfl) ?_
  intro p e s m below meth c A cx hw ls hl
  obtain ⟨hx, hb, hr, hml, hown, hts, hlk, hK, hA⟩ := id cx
  refine lv_aload_n hx hb d_M_isBefore_0 rfl (lv_at hl 0 rfl) ?_
  refine zz_get (v2 := .ref (a 6)) cx hw in_M 0 rfl rfl 10 (by decide) kw_333 rfl rfl d_M_isBefore_1 ?_
  refine lv_iload_n hx hb d_M_isBefore_4 rfl (lv_at hl 1 rfl) ?_
  obtain ⟨hi, h⟩ := h
  refine zz_iald (f2 := sg_a u 5) cx hw 6 0 rfl rfl hi rfl d_M_isBefore_5 ?_
  refine lv_aload_n hx hb d_M_isBefore_6 rfl (lv_at hl 0 rfl) ?_
  refine zz_get (v2 := .ref (a 6)) cx hw in_M 0 rfl rfl 10 (by decide) kw_333 rfl rfl d_M_isBefore_7 ?_
  refine lv_iload_n hx hb d_M_isBefore_10 rfl (lv_at hl 2 rfl) ?_
  obtain ⟨hi, h⟩ := h
  refine zz_iald (f2 := sg_a u 5) cx hw 6 0 rfl rfl hi rfl d_M_isBefore_11 ?_
  refine lv_icmp_eq (tgt := 38) hx hb d_M_isBefore_12 (by decide) (fun c1 => ?_) (fun c1 => ?_)
  · replace h := h.1 c1
    refine lv_iload_n hx hb d_M_isBefore_38 rfl (lv_at hl 1 rfl) ?_
    refine lv_iload_n hx hb d_M_isBefore_39 rfl (lv_at hl 2 rfl) ?_
    refine lv_icmp_ge (tgt := 47) hx hb d_M_isBefore_40 (by decide) (fun c2 => ?_) (fun c2 => ?_)
    · replace h := h.1 c2
      refine lv_iconst (v := 0) hx hb d_M_isBefore_47 (by decide) ?_
      exact zz_retz cx hw d_M_isBefore_48 (by decide) h
    · replace h := h.2 c2
      refine lv_iconst (v := 1) hx hb d_M_isBefore_43 (by decide) ?_
      refine lv_goto (tgt := 48) hx hb d_M_isBefore_44 (by decide) ?_
      exact zz_retz cx hw d_M_isBefore_48 (by decide) h
  · replace h := h.2 c1
    refine lv_aload_n hx hb d_M_isBefore_15 rfl (lv_at hl 0 rfl) ?_
    refine zz_get (v2 := .ref (a 6)) cx hw in_M 0 rfl rfl 10 (by decide) kw_333 rfl rfl d_M_isBefore_16 ?_
    refine lv_iload_n hx hb d_M_isBefore_19 rfl (lv_at hl 1 rfl) ?_
    obtain ⟨hi, h⟩ := h
    refine zz_iald (f2 := sg_a u 5) cx hw 6 0 rfl rfl hi rfl d_M_isBefore_20 ?_
    refine lv_aload_n hx hb d_M_isBefore_21 rfl (lv_at hl 0 rfl) ?_
    refine zz_get (v2 := .ref (a 6)) cx hw in_M 0 rfl rfl 10 (by decide) kw_333 rfl rfl d_M_isBefore_22 ?_
    refine lv_iload_n hx hb d_M_isBefore_25 rfl (lv_at hl 2 rfl) ?_
    obtain ⟨hi, h⟩ := h
    refine zz_iald (f2 := sg_a u 5) cx hw 6 0 rfl rfl hi rfl d_M_isBefore_26 ?_
    refine lv_icmp_le (tgt := 34) hx hb d_M_isBefore_27 (by decide) (fun c3 => ?_) (fun c3 => ?_)
    · replace h := h.1 c3
      refine lv_iconst (v := 0) hx hb d_M_isBefore_34 (by decide) ?_
      refine lv_goto (tgt := 48) hx hb d_M_isBefore_35 (by decide) ?_
      exact zz_retz cx hw d_M_isBefore_48 (by decide) h
    · replace h := h.2 c3
      refine lv_iconst (v := 1) hx hb d_M_isBefore_30 (by decide) ?_
      refine lv_goto (tgt := 48) hx hb d_M_isBefore_31 (by decide) ?_
      exact zz_retz cx hw d_M_isBefore_48 (by decide) h
set_option maxRecDepth 100000 in
set_option maxHeartbeats 4000000 in
theorem wk_M_open_58 {p : Program} {l : Launch} {e : Env} {s : State} {m : MethodId} {args : Array Value} {below : List Frame} {meth : Method} {c : Code} {A : Nat → Prop} {D : va_G} {cI cZ cL : ClassId} {a : Nat → Nat} (cx : zz_Cx p s m args meth c "GridFillsModel" b_M_open 7 (some .boolean) D zz_cl (zz_ty cI cZ cL) A) (post : Int32 → zz_St → Prop) {kn12 : Int32 → Int32 → Int32 → Int32 → zz_St → Prop} (hkn12 : ∀ (x1 : Int32) (x2 : Int32) (x3 : Int32) (x4 : Int32) (u : zz_St) (H : Heap) (locs : List Loc) (ls : Array Slot), zz_Wd D zz_cl A s.heap H locs (gw_M cI cZ cL a u) → lv_has ls 7 [(0, .ref (a 0)), (1, .int x1), (2, .int x2), (3, .int x3), (4, .int x4)] → kn12 x1 x2 x3 x4 u → W p l e (rm_M_open) s m args below meth c H locs 0 0 (MQ below (va_Qi post (zz_B D zz_cl (zz_ty cI cZ cL) (gw_M cI cZ cL a) A) A) args s 0 0 A) (F0 m 12 ls [])) : ∀ (x1 : Int32) (x2 : Int32) (x3 : Int32) (x4 : Int32) (u : zz_St) (H : Heap) (locs : List Loc) (ls : Array Slot), zz_Wd D zz_cl A s.heap H locs (gw_M cI cZ cL a u) → lv_has ls 7 [(0, .ref (a 0)), (1, .int x1), (2, .int x2), (3, .int x3), (4, .int x4)] → wp_M_open_58 post kn12 x1 x2 x3 x4 u → W p l e (rm_M_open) s m args below meth c H locs 0 0 (MQ below (va_Qi post (zz_B D zz_cl (zz_ty cI cZ cL) (gw_M cI cZ cL a) A) A) args s 0 0 A) (F0 m 58 ls []) := by
  intro x1 x2 x3 x4 u H locs ls hw hl h
  unfold wp_M_open_58 at h
  obtain ⟨hx, hb, hr, hml, hown, hts, hlk, hK, hA⟩ := id cx
  refine lv_iinc (v := x4 + 1) (lv' := [(4, .int (x4 + 1)), (0, .ref (a 0)), (1, .int x1), (2, .int x2), (3, .int x3)]) hx hb d_M_open_58 hl (k := 4) rfl rfl (by decide) rfl (fun ls hl => ?_)
  refine lv_goto (tgt := 12) hx hb d_M_open_61 (by decide) ?_
  exact hkn12 x1 x2 x3 (x4 + 1) u _ _ _ hw (lv_sub hl [1, 2, 3, 4, 0] rfl) h
set_option maxRecDepth 100000 in
set_option maxHeartbeats 4000000 in
theorem wk_M_open_194 {p : Program} {l : Launch} {e : Env} {s : State} {m : MethodId} {args : Array Value} {below : List Frame} {meth : Method} {c : Code} {A : Nat → Prop} {D : va_G} {cI cZ cL : ClassId} {a : Nat → Nat} (cx : zz_Cx p s m args meth c "GridFillsModel" b_M_open 7 (some .boolean) D zz_cl (zz_ty cI cZ cL) A) (post : Int32 → zz_St → Prop) {kn91 : Int32 → Int32 → Int32 → Int32 → zz_St → Prop} (hkn91 : ∀ (x1 : Int32) (x2 : Int32) (x4 : Int32) (x5 : Int32) (u : zz_St) (H : Heap) (locs : List Loc) (ls : Array Slot), zz_Wd D zz_cl A s.heap H locs (gw_M cI cZ cL a u) → lv_has ls 7 [(0, .ref (a 0)), (1, .int x1), (2, .int x2), (4, .int x4), (5, .int x5)] → kn91 x1 x2 x4 x5 u → W p l e (rm_M_open) s m args below meth c H locs 0 0 (MQ below (va_Qi post (zz_B D zz_cl (zz_ty cI cZ cL) (gw_M cI cZ cL a) A) A) args s 0 0 A) (F0 m 91 ls [])) : ∀ (x1 : Int32) (x2 : Int32) (x4 : Int32) (x5 : Int32) (u : zz_St) (H : Heap) (locs : List Loc) (ls : Array Slot), zz_Wd D zz_cl A s.heap H locs (gw_M cI cZ cL a u) → lv_has ls 7 [(0, .ref (a 0)), (1, .int x1), (2, .int x2), (4, .int x4), (5, .int x5)] → wp_M_open_194 post kn91 x1 x2 x4 x5 u → W p l e (rm_M_open) s m args below meth c H locs 0 0 (MQ below (va_Qi post (zz_B D zz_cl (zz_ty cI cZ cL) (gw_M cI cZ cL a) A) A) args s 0 0 A) (F0 m 194 ls []) := by
  intro x1 x2 x4 x5 u H locs ls hw hl h
  unfold wp_M_open_194 at h
  obtain ⟨hx, hb, hr, hml, hown, hts, hlk, hK, hA⟩ := id cx
  refine lv_iinc (v := x5 + 1) (lv' := [(5, .int (x5 + 1)), (0, .ref (a 0)), (1, .int x1), (2, .int x2), (4, .int x4)]) hx hb d_M_open_194 hl (k := 4) rfl rfl (by decide) rfl (fun ls hl => ?_)
  refine lv_goto (tgt := 91) hx hb d_M_open_197 (by decide) ?_
  exact hkn91 x1 x2 x4 (x5 + 1) u _ _ _ hw (lv_sub hl [1, 2, 3, 4, 0] rfl) h
set_option maxRecDepth 100000 in
set_option maxHeartbeats 4000000 in
theorem wk_M_open_177 {p : Program} {l : Launch} {e : Env} {s : State} {m : MethodId} {args : Array Value} {below : List Frame} {meth : Method} {c : Code} {A : Nat → Prop} {D : va_G} {cI cZ cL : ClassId} {a : Nat → Nat} (cx : zz_Cx p s m args meth c "GridFillsModel" b_M_open 7 (some .boolean) D zz_cl (zz_ty cI cZ cL) A) (post : Int32 → zz_St → Prop) {kn91 : Int32 → Int32 → Int32 → Int32 → zz_St → Prop} (hkn91 : ∀ (x1 : Int32) (x2 : Int32) (x4 : Int32) (x5 : Int32) (u : zz_St) (H : Heap) (locs : List Loc) (ls : Array Slot), zz_Wd D zz_cl A s.heap H locs (gw_M cI cZ cL a u) → lv_has ls 7 [(0, .ref (a 0)), (1, .int x1), (2, .int x2), (4, .int x4), (5, .int x5)] → kn91 x1 x2 x4 x5 u → W p l e (rm_M_open) s m args below meth c H locs 0 0 (MQ below (va_Qi post (zz_B D zz_cl (zz_ty cI cZ cL) (gw_M cI cZ cL a) A) A) args s 0 0 A) (F0 m 91 ls [])) : ∀ (x1 : Int32) (x2 : Int32) (x4 : Int32) (x5 : Int32) (x6 : Int32) (u : zz_St) (H : Heap) (locs : List Loc) (ls : Array Slot), zz_Wd D zz_cl A s.heap H locs (gw_M cI cZ cL a u) → lv_has ls 7 [(0, .ref (a 0)), (1, .int x1), (2, .int x2), (4, .int x4), (5, .int x5), (6, .int x6)] → wp_M_open_177 post kn91 x1 x2 x4 x5 x6 u → W p l e (rm_M_open) s m args below meth c H locs 0 0 (MQ below (va_Qi post (zz_B D zz_cl (zz_ty cI cZ cL) (gw_M cI cZ cL a) A) A) args s 0 0 A) (F0 m 177 ls []) := by
  intro x1 x2 x4 x5 x6 u H locs ls hw hl h
  unfold wp_M_open_177 at h
  obtain ⟨hx, hb, hr, hml, hown, hts, hlk, hK, hA⟩ := id cx
  refine lv_aload_n hx hb d_M_open_177 rfl (lv_at hl 0 rfl) ?_
  refine zz_get (v2 := .ref (a 17)) cx hw in_M 0 rfl rfl 26 (by decide) kw_372 rfl rfl d_M_open_178 ?_
  refine lv_bipush (v := 80) hx hb d_M_open_181 (by decide) ?_
  refine lv_iload_n hx hb d_M_open_183 rfl (lv_at hl 1 rfl) ?_
  refine lv_imul hx hb d_M_open_184 ?_
  refine lv_iload hx hb d_M_open_185 (lv_at hl 5 rfl) ?_
  refine lv_iadd hx hb d_M_open_187 ?_
  refine lv_iload hx hb d_M_open_188 (lv_at hl 4 rfl) ?_
  obtain ⟨hi, h⟩ := h
  refine zz_iast (ws' := gw_M cI cZ cL a (ss_a u 16 (upd (sg_a u 16) ((80 * x1) + x6).toNatClampNeg x5))) cx hw 17 0 rfl rfl hi rfl (gw_M_a16 _ _ _ _ _ _) d_M_open_190 (fun H locs hw => ?_)
  refine lv_iinc (v := x4 + 1) (lv' := [(4, .int (x4 + 1)), (0, .ref (a 0)), (1, .int x1), (2, .int x2), (5, .int x5), (6, .int x6)]) hx hb d_M_open_191 hl (k := 3) rfl rfl (by decide) rfl (fun ls hl => ?_)
  exact wk_M_open_194 cx post hkn91 x1 x2 (x4 + 1) x5 (ss_a u 16 (upd (sg_a u 16) ((80 * x1) + x6).toNatClampNeg x5)) _ _ _ hw (lv_sub hl [1, 2, 3, 0, 4] rfl) h
set_option maxRecDepth 100000 in
set_option maxHeartbeats 4000000 in
theorem wk_M_open_117 {p : Program} {l : Launch} {e : Env} {s : State} {m : MethodId} {args : Array Value} {below : List Frame} {meth : Method} {c : Code} {A : Nat → Prop} {D : va_G} {cI cZ cL : ClassId} {a : Nat → Nat} (cx : zz_Cx p s m args meth c "GridFillsModel" b_M_open 7 (some .boolean) D zz_cl (zz_ty cI cZ cL) A) (post : Int32 → zz_St → Prop) {kn91 : Int32 → Int32 → Int32 → Int32 → zz_St → Prop} {kn117 : Int32 → Int32 → Int32 → Int32 → Int32 → zz_St → Prop} (hkn91 : ∀ (x1 : Int32) (x2 : Int32) (x4 : Int32) (x5 : Int32) (u : zz_St) (H : Heap) (locs : List Loc) (ls : Array Slot), zz_Wd D zz_cl A s.heap H locs (gw_M cI cZ cL a u) → lv_has ls 7 [(0, .ref (a 0)), (1, .int x1), (2, .int x2), (4, .int x4), (5, .int x5)] → kn91 x1 x2 x4 x5 u → W p l e (rm_M_open) s m args below meth c H locs 0 0 (MQ below (va_Qi post (zz_B D zz_cl (zz_ty cI cZ cL) (gw_M cI cZ cL a) A) A) args s 0 0 A) (F0 m 91 ls [])) (hkn117 : ∀ (x1 : Int32) (x2 : Int32) (x4 : Int32) (x5 : Int32) (x6 : Int32) (u : zz_St) (H : Heap) (locs : List Loc) (ls : Array Slot), zz_Wd D zz_cl A s.heap H locs (gw_M cI cZ cL a u) → lv_has ls 7 [(0, .ref (a 0)), (1, .int x1), (2, .int x2), (4, .int x4), (5, .int x5), (6, .int x6)] → kn117 x1 x2 x4 x5 x6 u → W p l e (rm_M_open) s m args below meth c H locs 0 0 (MQ below (va_Qi post (zz_B D zz_cl (zz_ty cI cZ cL) (gw_M cI cZ cL a) A) A) args s 0 0 A) (F0 m 117 ls [])) : ∀ (x1 : Int32) (x2 : Int32) (x4 : Int32) (x5 : Int32) (x6 : Int32) (u : zz_St) (H : Heap) (locs : List Loc) (ls : Array Slot), zz_Wd D zz_cl A s.heap H locs (gw_M cI cZ cL a u) → lv_has ls 7 [(0, .ref (a 0)), (1, .int x1), (2, .int x2), (4, .int x4), (5, .int x5), (6, .int x6)] → wp_M_open_117 post kn91 kn117 x1 x2 x4 x5 x6 u → W p l e (rm_M_open) s m args below meth c H locs 0 0 (MQ below (va_Qi post (zz_B D zz_cl (zz_ty cI cZ cL) (gw_M cI cZ cL a) A) A) args s 0 0 A) (F0 m 117 ls []) := by
  intro x1 x2 x4 x5 x6 u H locs ls hw hl h
  unfold wp_M_open_117 at h
  obtain ⟨hx, hb, hr, hml, hown, hts, hlk, hK, hA⟩ := id cx
  refine lv_iload hx hb d_M_open_117 (lv_at hl 5 rfl) ?_
  refine lv_if_le (tgt := 177) hx hb d_M_open_119 (by decide) (fun c12 => ?_) (fun c12 => ?_)
  · replace h := h.1 c12
    exact wk_M_open_177 cx post hkn91 x1 x2 x4 x5 x6 u _ _ _ hw (lv_sub hl [0, 1, 2, 3, 4, 5] rfl) h
  · replace h := h.2 c12
    refine lv_aload_n hx hb d_M_open_122 rfl (lv_at hl 0 rfl) ?_
    refine lv_iload hx hb d_M_open_123 (lv_at hl 4 rfl) ?_
    refine lv_aload_n hx hb d_M_open_125 rfl (lv_at hl 0 rfl) ?_
    refine zz_get (v2 := .ref (a 17)) cx hw in_M 0 rfl rfl 26 (by decide) kw_372 rfl rfl d_M_open_126 ?_
    refine lv_bipush (v := 80) hx hb d_M_open_129 (by decide) ?_
    refine lv_iload_n hx hb d_M_open_131 rfl (lv_at hl 1 rfl) ?_
    refine lv_imul hx hb d_M_open_132 ?_
    refine lv_iload hx hb d_M_open_133 (lv_at hl 5 rfl) ?_
    refine lv_iadd hx hb d_M_open_135 ?_
    refine lv_iconst (v := 1) hx hb d_M_open_136 (by decide) ?_
    refine lv_isub hx hb d_M_open_137 ?_
    obtain ⟨hi, h⟩ := h
    refine zz_iald (f2 := sg_a u 16) cx hw 17 0 rfl rfl hi rfl d_M_open_138 ?_
    refine zz_callVi (As := [.int x5, .int (sg_a u 16 (((80 * x1) + x6) - 1).toNatClampNeg)]) (rest := []) cx hw (ct_M_isBefore l D cI cZ cL a h) (zz_gV kw_373 kw_375 kw_376 kw_301 kw_374) hd_M_isBefore ⟨rfl, rfl⟩ ⟨Nat.le_of_ble_eq_true rfl, Nat.le_of_ble_eq_true rfl⟩ 0 rfl rfl rfl rfl hl.1 rfl (Nat.le_of_ble_eq_true rfl) d_M_open_139 (fun r14 s13 H locs h hw => ?_)
    refine lv_if_eq (tgt := 177) hx hb d_M_open_142 (by decide) (fun c15 => ?_) (fun c15 => ?_)
    · replace h := h.1 c15
      exact wk_M_open_177 cx post hkn91 x1 x2 x4 x5 x6 s13 _ _ _ hw (lv_sub hl [0, 1, 2, 3, 4, 5] rfl) h
    · replace h := h.2 c15
      refine lv_aload_n hx hb d_M_open_145 rfl (lv_at hl 0 rfl) ?_
      refine zz_get (v2 := .ref (a 17)) cx hw in_M 0 rfl rfl 26 (by decide) kw_372 rfl rfl d_M_open_146 ?_
      refine lv_bipush (v := 80) hx hb d_M_open_149 (by decide) ?_
      refine lv_iload_n hx hb d_M_open_151 rfl (lv_at hl 1 rfl) ?_
      refine lv_imul hx hb d_M_open_152 ?_
      refine lv_iload hx hb d_M_open_153 (lv_at hl 5 rfl) ?_
      refine lv_iadd hx hb d_M_open_155 ?_
      refine lv_aload_n hx hb d_M_open_156 rfl (lv_at hl 0 rfl) ?_
      refine zz_get (v2 := .ref (a 17)) cx hw in_M 0 rfl rfl 26 (by decide) kw_372 rfl rfl d_M_open_157 ?_
      refine lv_bipush (v := 80) hx hb d_M_open_160 (by decide) ?_
      refine lv_iload_n hx hb d_M_open_162 rfl (lv_at hl 1 rfl) ?_
      refine lv_imul hx hb d_M_open_163 ?_
      refine lv_iload hx hb d_M_open_164 (lv_at hl 5 rfl) ?_
      refine lv_iadd hx hb d_M_open_166 ?_
      refine lv_iconst (v := 1) hx hb d_M_open_167 (by decide) ?_
      refine lv_isub hx hb d_M_open_168 ?_
      obtain ⟨hi, h⟩ := h
      refine zz_iald (f2 := sg_a s13 16) cx hw 17 0 rfl rfl hi rfl d_M_open_169 ?_
      refine lv_topi (fun v16 ev16 => ?_)
      replace h := h v16 ev16
      obtain ⟨hi, h⟩ := h
      refine zz_iast (ws' := gw_M cI cZ cL a (ss_a s13 16 (upd (sg_a s13 16) ((80 * x1) + x6).toNatClampNeg v16))) cx hw 17 0 rfl rfl hi rfl (gw_M_a16 _ _ _ _ _ _) d_M_open_170 (fun H locs hw => ?_)
      refine lv_iinc (v := x6 + (-1)) (lv' := [(6, .int (x6 + (-1))), (0, .ref (a 0)), (1, .int x1), (2, .int x2), (4, .int x4), (5, .int x5)]) hx hb d_M_open_171 hl (k := 5) rfl rfl (by decide) rfl (fun ls hl => ?_)
      refine lv_goto (tgt := 117) hx hb d_M_open_174 (by decide) ?_
      exact hkn117 x1 x2 x4 x5 (x6 + (-1)) (ss_a s13 16 (upd (sg_a s13 16) ((80 * x1) + x6).toNatClampNeg v16)) _ _ _ hw (lv_sub hl [1, 2, 3, 4, 5, 0] rfl) h
set_option maxRecDepth 100000 in
set_option maxHeartbeats 4000000 in
theorem wk_M_open_117_f {p : Program} {l : Launch} {e : Env} {s : State} {m : MethodId} {args : Array Value} {below : List Frame} {meth : Method} {c : Code} {A : Nat → Prop} {D : va_G} {cI cZ cL : ClassId} {a : Nat → Nat} (cx : zz_Cx p s m args meth c "GridFillsModel" b_M_open 7 (some .boolean) D zz_cl (zz_ty cI cZ cL) A) (post : Int32 → zz_St → Prop) {kn91 : Int32 → Int32 → Int32 → Int32 → zz_St → Prop} (hkn91 : ∀ (x1 : Int32) (x2 : Int32) (x4 : Int32) (x5 : Int32) (u : zz_St) (H : Heap) (locs : List Loc) (ls : Array Slot), zz_Wd D zz_cl A s.heap H locs (gw_M cI cZ cL a u) → lv_has ls 7 [(0, .ref (a 0)), (1, .int x1), (2, .int x2), (4, .int x4), (5, .int x5)] → kn91 x1 x2 x4 x5 u → W p l e (rm_M_open) s m args below meth c H locs 0 0 (MQ below (va_Qi post (zz_B D zz_cl (zz_ty cI cZ cL) (gw_M cI cZ cL a) A) A) args s 0 0 A) (F0 m 91 ls [])) : ∀ n : Nat, ∀ (x1 : Int32) (x2 : Int32) (x4 : Int32) (x5 : Int32) (x6 : Int32) (u : zz_St) (H : Heap) (locs : List Loc) (ls : Array Slot), zz_Wd D zz_cl A s.heap H locs (gw_M cI cZ cL a u) → lv_has ls 7 [(0, .ref (a 0)), (1, .int x1), (2, .int x2), (4, .int x4), (5, .int x5), (6, .int x6)] → wp_M_open_117_f post kn91 n x1 x2 x4 x5 x6 u → W p l e (rm_M_open) s m args below meth c H locs 0 0 (MQ below (va_Qi post (zz_B D zz_cl (zz_ty cI cZ cL) (gw_M cI cZ cL a) A) A) args s 0 0 A) (F0 m 117 ls []) := by
  intro n
  induction n with
  | zero => exact fun _ _ _ _ _ _ _ _ _ _ _ h => False.elim h
  | succ n ih => exact wk_M_open_117 cx post hkn91 ih
set_option maxRecDepth 100000 in
set_option maxHeartbeats 4000000 in
theorem wk_M_open_91 {p : Program} {l : Launch} {e : Env} {s : State} {m : MethodId} {args : Array Value} {below : List Frame} {meth : Method} {c : Code} {A : Nat → Prop} {D : va_G} {cI cZ cL : ClassId} {a : Nat → Nat} (cx : zz_Cx p s m args meth c "GridFillsModel" b_M_open 7 (some .boolean) D zz_cl (zz_ty cI cZ cL) A) (post : Int32 → zz_St → Prop) {kn91 : Int32 → Int32 → Int32 → Int32 → zz_St → Prop} (hkn91 : ∀ (x1 : Int32) (x2 : Int32) (x4 : Int32) (x5 : Int32) (u : zz_St) (H : Heap) (locs : List Loc) (ls : Array Slot), zz_Wd D zz_cl A s.heap H locs (gw_M cI cZ cL a u) → lv_has ls 7 [(0, .ref (a 0)), (1, .int x1), (2, .int x2), (4, .int x4), (5, .int x5)] → kn91 x1 x2 x4 x5 u → W p l e (rm_M_open) s m args below meth c H locs 0 0 (MQ below (va_Qi post (zz_B D zz_cl (zz_ty cI cZ cL) (gw_M cI cZ cL a) A) A) args s 0 0 A) (F0 m 91 ls [])) : ∀ (x1 : Int32) (x2 : Int32) (x4 : Int32) (x5 : Int32) (u : zz_St) (H : Heap) (locs : List Loc) (ls : Array Slot), zz_Wd D zz_cl A s.heap H locs (gw_M cI cZ cL a u) → lv_has ls 7 [(0, .ref (a 0)), (1, .int x1), (2, .int x2), (4, .int x4), (5, .int x5)] → wp_M_open_91 post kn91 x1 x2 x4 x5 u → W p l e (rm_M_open) s m args below meth c H locs 0 0 (MQ below (va_Qi post (zz_B D zz_cl (zz_ty cI cZ cL) (gw_M cI cZ cL a) A) A) args s 0 0 A) (F0 m 91 ls []) := by
  intro x1 x2 x4 x5 u H locs ls hw hl h
  unfold wp_M_open_91 at h
  obtain ⟨hx, hb, hr, hml, hown, hts, hlk, hK, hA⟩ := id cx
  refine lv_iload hx hb d_M_open_91 (lv_at hl 4 rfl) ?_
  refine lv_aload_n hx hb d_M_open_93 rfl (lv_at hl 0 rfl) ?_
  refine zz_get (v2 := .int (sg_i u 4)) cx hw in_M 0 rfl rfl 7 (by decide) kw_328 rfl rfl d_M_open_94 ?_
  refine lv_icmp_ge (tgt := 200) hx hb d_M_open_97 (by decide) (fun c8 => ?_) (fun c8 => ?_)
  · replace h := h.1 c8
    refine lv_aload_n hx hb d_M_open_200 rfl (lv_at hl 0 rfl) ?_
    refine zz_get (v2 := .ref (a 15)) cx hw in_M 0 rfl rfl 24 (by decide) kw_371 rfl rfl d_M_open_201 ?_
    refine lv_iload_n hx hb d_M_open_204 rfl (lv_at hl 1 rfl) ?_
    refine lv_iload hx hb d_M_open_205 (lv_at hl 3 rfl) ?_
    obtain ⟨hi, h⟩ := h
    refine zz_iast (ws' := gw_M cI cZ cL a (ss_a u 14 (upd (sg_a u 14) x1.toNatClampNeg x4))) cx hw 15 0 rfl rfl hi rfl (gw_M_a14 _ _ _ _ _ _) d_M_open_207 (fun H locs hw => ?_)
    refine lv_iconst (v := 1) hx hb d_M_open_208 (by decide) ?_
    exact zz_retz cx hw d_M_open_209 (by decide) h
  · replace h := h.2 c8
    refine lv_aload_n hx hb d_M_open_100 rfl (lv_at hl 0 rfl) ?_
    refine lv_iload_n hx hb d_M_open_101 rfl (lv_at hl 2 rfl) ?_
    refine lv_iload hx hb d_M_open_102 (lv_at hl 4 rfl) ?_
    refine zz_callVi (As := [.int x2, .int x5]) (rest := []) cx hw (ct_M_mayHave l D cI cZ cL a h) (zz_gV kw_352 kw_354 kw_355 kw_301 kw_353) hd_M_mayHave ⟨rfl, rfl⟩ ⟨Nat.le_of_ble_eq_true rfl, Nat.le_of_ble_eq_true rfl⟩ 0 rfl rfl rfl rfl hl.1 rfl (Nat.le_of_ble_eq_true rfl) d_M_open_104 (fun r10 s9 H locs h hw => ?_)
    refine lv_if_ne (tgt := 113) hx hb d_M_open_107 (by decide) (fun c11 => ?_) (fun c11 => ?_)
    · replace h := h.2 c11
      refine lv_iload hx hb d_M_open_113 (lv_at hl 3 rfl) ?_
      refine lv_istore (lv' := [(6, .int x4), (0, .ref (a 0)), (1, .int x1), (2, .int x2), (4, .int x4), (5, .int x5)]) hx hb d_M_open_115 hl (by decide) rfl (fun ls hl => ?_)
      obtain ⟨n, h⟩ := h
      exact wk_M_open_117_f cx post hkn91 n x1 x2 x4 x5 x4 s9 _ _ _ hw (lv_sub hl [1, 2, 3, 4, 5, 0] rfl) h
    · replace h := h.1 c11
      refine lv_goto (tgt := 194) hx hb d_M_open_110 (by decide) ?_
      exact wk_M_open_194 cx post hkn91 x1 x2 x4 x5 s9 _ _ _ hw (lv_sub hl [0, 1, 2, 3, 4] rfl) h
set_option maxRecDepth 100000 in
set_option maxHeartbeats 4000000 in
theorem wk_M_open_91_f {p : Program} {l : Launch} {e : Env} {s : State} {m : MethodId} {args : Array Value} {below : List Frame} {meth : Method} {c : Code} {A : Nat → Prop} {D : va_G} {cI cZ cL : ClassId} {a : Nat → Nat} (cx : zz_Cx p s m args meth c "GridFillsModel" b_M_open 7 (some .boolean) D zz_cl (zz_ty cI cZ cL) A) (post : Int32 → zz_St → Prop) : ∀ n : Nat, ∀ (x1 : Int32) (x2 : Int32) (x4 : Int32) (x5 : Int32) (u : zz_St) (H : Heap) (locs : List Loc) (ls : Array Slot), zz_Wd D zz_cl A s.heap H locs (gw_M cI cZ cL a u) → lv_has ls 7 [(0, .ref (a 0)), (1, .int x1), (2, .int x2), (4, .int x4), (5, .int x5)] → wp_M_open_91_f post n x1 x2 x4 x5 u → W p l e (rm_M_open) s m args below meth c H locs 0 0 (MQ below (va_Qi post (zz_B D zz_cl (zz_ty cI cZ cL) (gw_M cI cZ cL a) A) A) args s 0 0 A) (F0 m 91 ls []) := by
  intro n
  induction n with
  | zero => exact fun _ _ _ _ _ _ _ _ _ _ h => False.elim h
  | succ n ih => exact wk_M_open_91 cx post ih
set_option maxRecDepth 100000 in
set_option maxHeartbeats 4000000 in
theorem wk_M_open_12 {p : Program} {l : Launch} {e : Env} {s : State} {m : MethodId} {args : Array Value} {below : List Frame} {meth : Method} {c : Code} {A : Nat → Prop} {D : va_G} {cI cZ cL : ClassId} {a : Nat → Nat} (cx : zz_Cx p s m args meth c "GridFillsModel" b_M_open 7 (some .boolean) D zz_cl (zz_ty cI cZ cL) A) (post : Int32 → zz_St → Prop) {kn12 : Int32 → Int32 → Int32 → Int32 → zz_St → Prop} (hkn12 : ∀ (x1 : Int32) (x2 : Int32) (x3 : Int32) (x4 : Int32) (u : zz_St) (H : Heap) (locs : List Loc) (ls : Array Slot), zz_Wd D zz_cl A s.heap H locs (gw_M cI cZ cL a u) → lv_has ls 7 [(0, .ref (a 0)), (1, .int x1), (2, .int x2), (3, .int x3), (4, .int x4)] → kn12 x1 x2 x3 x4 u → W p l e (rm_M_open) s m args below meth c H locs 0 0 (MQ below (va_Qi post (zz_B D zz_cl (zz_ty cI cZ cL) (gw_M cI cZ cL a) A) A) args s 0 0 A) (F0 m 12 ls [])) : ∀ (x1 : Int32) (x2 : Int32) (x3 : Int32) (x4 : Int32) (u : zz_St) (H : Heap) (locs : List Loc) (ls : Array Slot), zz_Wd D zz_cl A s.heap H locs (gw_M cI cZ cL a u) → lv_has ls 7 [(0, .ref (a 0)), (1, .int x1), (2, .int x2), (3, .int x3), (4, .int x4)] → wp_M_open_12 post kn12 x1 x2 x3 x4 u → W p l e (rm_M_open) s m args below meth c H locs 0 0 (MQ below (va_Qi post (zz_B D zz_cl (zz_ty cI cZ cL) (gw_M cI cZ cL a) A) A) args s 0 0 A) (F0 m 12 ls []) := by
  intro x1 x2 x3 x4 u H locs ls hw hl h
  unfold wp_M_open_12 at h
  obtain ⟨hx, hb, hr, hml, hown, hts, hlk, hK, hA⟩ := id cx
  refine lv_iload hx hb d_M_open_12 (lv_at hl 4 rfl) ?_
  refine lv_aload_n hx hb d_M_open_14 rfl (lv_at hl 0 rfl) ?_
  refine zz_get (v2 := .int (sg_i u 5)) cx hw in_M 0 rfl rfl 11 (by decide) kw_304 rfl rfl d_M_open_15 ?_
  refine lv_icmp_ge (tgt := 64) hx hb d_M_open_18 (by decide) (fun c2 => ?_) (fun c2 => ?_)
  · replace h := h.1 c2
    refine lv_iload_n hx hb d_M_open_64 rfl (lv_at hl 2 rfl) ?_
    refine lv_iconst (v := (-1)) hx hb d_M_open_65 (by decide) ?_
    refine lv_icmp_ne (tgt := 71) hx hb d_M_open_66 (by decide) (fun c3 => ?_) (fun c3 => ?_)
    · replace h := h.2 c3
      refine lv_aload_n hx hb d_M_open_71 rfl (lv_at hl 0 rfl) ?_
      refine zz_get (v2 := .ref (a 14)) cx hw in_M 0 rfl rfl 23 (by decide) kw_369 rfl rfl d_M_open_72 ?_
      refine lv_iload_n hx hb d_M_open_75 rfl (lv_at hl 1 rfl) ?_
      refine lv_iload_n hx hb d_M_open_76 rfl (lv_at hl 2 rfl) ?_
      obtain ⟨hi, h⟩ := h
      refine zz_iast (ws' := gw_M cI cZ cL a (ss_a u 13 (upd (sg_a u 13) x1.toNatClampNeg x2))) cx hw 14 0 rfl rfl hi rfl (gw_M_a13 _ _ _ _ _ _) d_M_open_77 (fun H locs hw => ?_)
      refine lv_aload_n hx hb d_M_open_78 rfl (lv_at hl 0 rfl) ?_
      refine zz_get (v2 := .ref (a 16)) cx hw in_M 0 rfl rfl 25 (by decide) kw_370 rfl rfl d_M_open_79 ?_
      refine lv_iload_n hx hb d_M_open_82 rfl (lv_at hl 1 rfl) ?_
      refine lv_iconst (v := 0) hx hb d_M_open_83 (by decide) ?_
      obtain ⟨hi, h⟩ := h
      refine zz_iast (ws' := gw_M cI cZ cL a (ss_a (ss_a u 13 (upd (sg_a u 13) x1.toNatClampNeg x2)) 15 (upd (sg_a u 15) x1.toNatClampNeg 0))) cx hw 16 0 rfl rfl hi (sy_a _ _ (by decide)) (gw_M_a15 _ _ _ _ _ _) d_M_open_84 (fun H locs hw => ?_)
      refine lv_iconst (v := 0) hx hb d_M_open_85 (by decide) ?_
      refine lv_istore (lv' := [(4, .int 0), (0, .ref (a 0)), (1, .int x1), (2, .int x2), (3, .int x3)]) hx hb d_M_open_86 hl (by decide) rfl (fun ls hl => ?_)
      refine lv_iconst (v := 0) hx hb d_M_open_88 (by decide) ?_
      refine lv_istore (lv' := [(5, .int 0), (4, .int 0), (0, .ref (a 0)), (1, .int x1), (2, .int x2), (3, .int x3)]) hx hb d_M_open_89 hl (by decide) rfl (fun ls hl => ?_)
      obtain ⟨n, h⟩ := h
      exact wk_M_open_91_f cx post  n x1 x2 0 0 (ss_a (ss_a u 13 (upd (sg_a u 13) x1.toNatClampNeg x2)) 15 (upd (sg_a u 15) x1.toNatClampNeg 0)) _ _ _ hw (lv_sub hl [2, 3, 4, 1, 0] rfl) h
    · replace h := h.1 c3
      refine lv_iconst (v := 0) hx hb d_M_open_69 (by decide) ?_
      exact zz_retz cx hw d_M_open_70 (by decide) h
  · replace h := h.2 c2
    refine lv_aload_n hx hb d_M_open_21 rfl (lv_at hl 0 rfl) ?_
    refine zz_get (v2 := .ref (a 11)) cx hw in_M 0 rfl rfl 17 (by decide) kw_343 rfl rfl d_M_open_22 ?_
    refine lv_iload hx hb d_M_open_25 (lv_at hl 4 rfl) ?_
    obtain ⟨hi, h⟩ := h
    refine zz_iald (f2 := sg_a u 10) cx hw 11 0 rfl rfl hi rfl d_M_open_27 ?_
    refine lv_iconst (v := (-1)) hx hb d_M_open_28 (by decide) ?_
    refine lv_icmp_eq (tgt := 35) hx hb d_M_open_29 (by decide) (fun c4 => ?_) (fun c4 => ?_)
    · replace h := h.1 c4
      refine lv_aload_n hx hb d_M_open_35 rfl (lv_at hl 0 rfl) ?_
      refine lv_iload hx hb d_M_open_36 (lv_at hl 4 rfl) ?_
      refine zz_callVi (As := [.int x4]) (rest := []) cx hw (ct_M_countFor l D cI cZ cL a h) (zz_gV kw_356 kw_358 kw_359 kw_301 kw_357) hd_M_countFor ⟨rfl, rfl⟩ ⟨Nat.le_of_ble_eq_true rfl, Nat.le_of_ble_eq_true rfl⟩ 0 rfl rfl rfl rfl hl.1 rfl (Nat.le_of_ble_eq_true rfl) d_M_open_38 (fun r6 s5 H locs h hw => ?_)
      refine lv_istore (lv' := [(5, .int r6), (0, .ref (a 0)), (1, .int x1), (2, .int x2), (3, .int x3), (4, .int x4)]) hx hb d_M_open_41 hl (by decide) rfl (fun ls hl => ?_)
      refine lv_iload hx hb d_M_open_43 (lv_at hl 0 rfl) ?_
      refine lv_iload_n hx hb d_M_open_45 rfl (lv_at hl 4 rfl) ?_
      refine lv_icmp_lt (tgt := 52) hx hb d_M_open_46 (by decide) (fun c7 => ?_) (fun c7 => ?_)
      · replace h := h.1 c7
        refine lv_iload hx hb d_M_open_52 (lv_at hl 5 rfl) ?_
        refine lv_istore_n (lv' := [(2, .int x4), (5, .int r6), (0, .ref (a 0)), (1, .int x1), (3, .int x3), (4, .int x4)]) hx hb d_M_open_54 rfl hl (by decide) rfl (fun ls hl => ?_)
        refine lv_iload hx hb d_M_open_55 (lv_at hl 1 rfl) ?_
        refine lv_istore_n (lv' := [(3, .int r6), (2, .int x4), (5, .int r6), (0, .ref (a 0)), (1, .int x1), (4, .int x4)]) hx hb d_M_open_57 rfl hl (by decide) rfl (fun ls hl => ?_)
        exact wk_M_open_58 cx post hkn12 x1 x4 r6 x4 s5 _ _ _ hw (lv_sub hl [3, 4, 1, 0, 5] rfl) h
      · replace h := h.2 c7
        refine lv_goto (tgt := 58) hx hb d_M_open_49 (by decide) ?_
        exact wk_M_open_58 cx post hkn12 x1 x2 x3 x4 s5 _ _ _ hw (lv_sub hl [1, 2, 3, 4, 5] rfl) h
    · replace h := h.2 c4
      refine lv_goto (tgt := 58) hx hb d_M_open_32 (by decide) ?_
      exact wk_M_open_58 cx post hkn12 x1 x2 x3 x4 u _ _ _ hw (lv_sub hl [0, 1, 2, 3, 4] rfl) h
set_option maxRecDepth 100000 in
set_option maxHeartbeats 4000000 in
theorem wk_M_open_12_f {p : Program} {l : Launch} {e : Env} {s : State} {m : MethodId} {args : Array Value} {below : List Frame} {meth : Method} {c : Code} {A : Nat → Prop} {D : va_G} {cI cZ cL : ClassId} {a : Nat → Nat} (cx : zz_Cx p s m args meth c "GridFillsModel" b_M_open 7 (some .boolean) D zz_cl (zz_ty cI cZ cL) A) (post : Int32 → zz_St → Prop) : ∀ n : Nat, ∀ (x1 : Int32) (x2 : Int32) (x3 : Int32) (x4 : Int32) (u : zz_St) (H : Heap) (locs : List Loc) (ls : Array Slot), zz_Wd D zz_cl A s.heap H locs (gw_M cI cZ cL a u) → lv_has ls 7 [(0, .ref (a 0)), (1, .int x1), (2, .int x2), (3, .int x3), (4, .int x4)] → wp_M_open_12_f post n x1 x2 x3 x4 u → W p l e (rm_M_open) s m args below meth c H locs 0 0 (MQ below (va_Qi post (zz_B D zz_cl (zz_ty cI cZ cL) (gw_M cI cZ cL a) A) A) args s 0 0 A) (F0 m 12 ls []) := by
  intro n
  induction n with
  | zero => exact fun _ _ _ _ _ _ _ _ _ _ h => False.elim h
  | succ n ih => exact wk_M_open_12 cx post ih
set_option maxRecDepth 100000 in
set_option maxHeartbeats 4000000 in
theorem ct_M_open (l : Launch) (D : va_G) (cI cZ cL : ClassId) (a : Nat → Nat) {a0 : Int32} {u : zz_St} {post : Int32 → zz_St → Prop} (h : wp_M_open  a0 u post) : zz_MI l y_M_open (.code y_M_open b_M_open 7 (some .boolean) :: zz_tbl) (rm_M_open) D zz_cl (zz_ty cI cZ cL) (gw_M cI cZ cL a) [.ref (a 0), .int a0] u post := by
  unfold wp_M_open at h
  refine zz_ofI (by decide) (Nat.le_of_ble_eq_true rfl) ?_
  intro p e s m below meth c A cx hw ls hl
  obtain ⟨hx, hb, hr, hml, hown, hts, hlk, hK, hA⟩ := id cx
  refine lv_aload_n hx hb d_M_open_0 rfl (lv_at hl 0 rfl) ?_
  refine zz_callVv (As := []) (rest := []) cx hw (ct_M_spell l D cI cZ cL a h) (zz_gV kw_360 kw_362 kw_363 kw_301 kw_361) hd_M_spell ⟨rfl, rfl⟩ ⟨Nat.le_of_ble_eq_true rfl, Nat.le_of_ble_eq_true rfl⟩ 0 rfl rfl rfl rfl hl.1 rfl (Nat.le_of_ble_eq_true rfl) d_M_open_1 (fun s1 H locs h hw => ?_)
  refine lv_iconst (v := (-1)) hx hb d_M_open_4 (by decide) ?_
  refine lv_istore_n (lv' := [(2, .int (-1)), (0, .ref (a 0)), (1, .int a0)]) hx hb d_M_open_5 rfl hl (by decide) rfl (fun ls hl => ?_)
  refine lv_bipush (v := 81) hx hb d_M_open_6 (by decide) ?_
  refine lv_istore_n (lv' := [(3, .int 81), (2, .int (-1)), (0, .ref (a 0)), (1, .int a0)]) hx hb d_M_open_8 rfl hl (by decide) rfl (fun ls hl => ?_)
  refine lv_iconst (v := 0) hx hb d_M_open_9 (by decide) ?_
  refine lv_istore (lv' := [(4, .int 0), (3, .int 81), (2, .int (-1)), (0, .ref (a 0)), (1, .int a0)]) hx hb d_M_open_10 hl (by decide) rfl (fun ls hl => ?_)
  obtain ⟨n, h⟩ := h
  exact wk_M_open_12_f cx post  n a0 (-1) 81 0 s1 _ _ _ hw (lv_sub hl [3, 4, 2, 1, 0] rfl) h
set_option maxRecDepth 100000 in
set_option maxHeartbeats 4000000 in
theorem wk_M_sumNow_4 {p : Program} {l : Launch} {e : Env} {s : State} {m : MethodId} {args : Array Value} {below : List Frame} {meth : Method} {c : Code} {A : Nat → Prop} {D : va_G} {cI cZ cL : ClassId} {a : Nat → Nat} (cx : zz_Cx p s m args meth c "GridFillsModel" b_M_sumNow 3 (some .int) D zz_cl (zz_ty cI cZ cL) A) (post : Int32 → zz_St → Prop) {kn4 : Int32 → Int32 → zz_St → Prop} (hkn4 : ∀ (x1 : Int32) (x2 : Int32) (u : zz_St) (H : Heap) (locs : List Loc) (ls : Array Slot), zz_Wd D zz_cl A s.heap H locs (gw_M cI cZ cL a u) → lv_has ls 3 [(0, .ref (a 0)), (1, .int x1), (2, .int x2)] → kn4 x1 x2 u → W p l e (rm_M_sumNow) s m args below meth c H locs 0 0 (MQ below (va_Qi post (zz_B D zz_cl (zz_ty cI cZ cL) (gw_M cI cZ cL a) A) A) args s 0 0 A) (F0 m 4 ls [])) : ∀ (x1 : Int32) (x2 : Int32) (u : zz_St) (H : Heap) (locs : List Loc) (ls : Array Slot), zz_Wd D zz_cl A s.heap H locs (gw_M cI cZ cL a u) → lv_has ls 3 [(0, .ref (a 0)), (1, .int x1), (2, .int x2)] → wp_M_sumNow_4 post kn4 x1 x2 u → W p l e (rm_M_sumNow) s m args below meth c H locs 0 0 (MQ below (va_Qi post (zz_B D zz_cl (zz_ty cI cZ cL) (gw_M cI cZ cL a) A) A) args s 0 0 A) (F0 m 4 ls []) := by
  intro x1 x2 u H locs ls hw hl h
  unfold wp_M_sumNow_4 at h
  obtain ⟨hx, hb, hr, hml, hown, hts, hlk, hK, hA⟩ := id cx
  refine lv_iload_n hx hb d_M_sumNow_4 rfl (lv_at hl 2 rfl) ?_
  refine lv_aload_n hx hb d_M_sumNow_5 rfl (lv_at hl 0 rfl) ?_
  refine zz_get (v2 := .int (sg_i u 5)) cx hw in_M 0 rfl rfl 11 (by decide) kw_304 rfl rfl d_M_sumNow_6 ?_
  refine lv_icmp_ge (tgt := 32) hx hb d_M_sumNow_9 (by decide) (fun c1 => ?_) (fun c1 => ?_)
  · replace h := h.1 c1
    refine lv_iload_n hx hb d_M_sumNow_32 rfl (lv_at hl 1 rfl) ?_
    exact zz_reti cx hw d_M_sumNow_33 h
  · replace h := h.2 c1
    refine lv_iload_n hx hb d_M_sumNow_12 rfl (lv_at hl 1 rfl) ?_
    refine lv_aload_n hx hb d_M_sumNow_13 rfl (lv_at hl 0 rfl) ?_
    refine zz_get (v2 := .ref (a 6)) cx hw in_M 0 rfl rfl 10 (by decide) kw_333 rfl rfl d_M_sumNow_14 ?_
    refine lv_aload_n hx hb d_M_sumNow_17 rfl (lv_at hl 0 rfl) ?_
    refine zz_get (v2 := .ref (a 11)) cx hw in_M 0 rfl rfl 17 (by decide) kw_343 rfl rfl d_M_sumNow_18 ?_
    refine lv_iload_n hx hb d_M_sumNow_21 rfl (lv_at hl 2 rfl) ?_
    obtain ⟨hi, h⟩ := h
    refine zz_iald (f2 := sg_a u 10) cx hw 11 0 rfl rfl hi rfl d_M_sumNow_22 ?_
    obtain ⟨hi, h⟩ := h
    refine zz_iald (f2 := sg_a u 5) cx hw 6 0 rfl rfl hi rfl d_M_sumNow_23 ?_
    refine lv_iadd hx hb d_M_sumNow_24 ?_
    refine lv_topi (fun v2 ev2 => ?_)
    replace h := h v2 ev2
    refine lv_istore_n (lv' := [(1, .int v2), (0, .ref (a 0)), (2, .int x2)]) hx hb d_M_sumNow_25 rfl hl (by decide) rfl (fun ls hl => ?_)
    refine lv_iinc (v := x2 + 1) (lv' := [(2, .int (x2 + 1)), (1, .int v2), (0, .ref (a 0))]) hx hb d_M_sumNow_26 hl (k := 2) rfl rfl (by decide) rfl (fun ls hl => ?_)
    refine lv_goto (tgt := 4) hx hb d_M_sumNow_29 (by decide) ?_
    exact hkn4 v2 (x2 + 1) u _ _ _ hw (lv_sub hl [2, 1, 0] rfl) h
set_option maxRecDepth 100000 in
set_option maxHeartbeats 4000000 in
theorem wk_M_sumNow_4_f {p : Program} {l : Launch} {e : Env} {s : State} {m : MethodId} {args : Array Value} {below : List Frame} {meth : Method} {c : Code} {A : Nat → Prop} {D : va_G} {cI cZ cL : ClassId} {a : Nat → Nat} (cx : zz_Cx p s m args meth c "GridFillsModel" b_M_sumNow 3 (some .int) D zz_cl (zz_ty cI cZ cL) A) (post : Int32 → zz_St → Prop) : ∀ n : Nat, ∀ (x1 : Int32) (x2 : Int32) (u : zz_St) (H : Heap) (locs : List Loc) (ls : Array Slot), zz_Wd D zz_cl A s.heap H locs (gw_M cI cZ cL a u) → lv_has ls 3 [(0, .ref (a 0)), (1, .int x1), (2, .int x2)] → wp_M_sumNow_4_f post n x1 x2 u → W p l e (rm_M_sumNow) s m args below meth c H locs 0 0 (MQ below (va_Qi post (zz_B D zz_cl (zz_ty cI cZ cL) (gw_M cI cZ cL a) A) A) args s 0 0 A) (F0 m 4 ls []) := by
  intro n
  induction n with
  | zero => exact fun _ _ _ _ _ _ _ _ h => False.elim h
  | succ n ih => exact wk_M_sumNow_4 cx post ih
set_option maxRecDepth 100000 in
set_option maxHeartbeats 4000000 in
theorem ct_M_sumNow (l : Launch) (D : va_G) (cI cZ cL : ClassId) (a : Nat → Nat) {u : zz_St} {post : Int32 → zz_St → Prop} (h : wp_M_sumNow  u post) : zz_MI l y_M_sumNow (.code y_M_sumNow b_M_sumNow 3 (some .int) :: zz_tbl) (rm_M_sumNow) D zz_cl (zz_ty cI cZ cL) (gw_M cI cZ cL a) [.ref (a 0)] u post := by
  unfold wp_M_sumNow at h
  refine zz_ofI (by decide) (Nat.le_of_ble_eq_true rfl) ?_
  intro p e s m below meth c A cx hw ls hl
  obtain ⟨hx, hb, hr, hml, hown, hts, hlk, hK, hA⟩ := id cx
  refine lv_iconst (v := 0) hx hb d_M_sumNow_0 (by decide) ?_
  refine lv_istore_n (lv' := [(1, .int 0), (0, .ref (a 0))]) hx hb d_M_sumNow_1 rfl hl (by decide) rfl (fun ls hl => ?_)
  refine lv_iconst (v := 0) hx hb d_M_sumNow_2 (by decide) ?_
  refine lv_istore_n (lv' := [(2, .int 0), (1, .int 0), (0, .ref (a 0))]) hx hb d_M_sumNow_3 rfl hl (by decide) rfl (fun ls hl => ?_)
  obtain ⟨n, h⟩ := h
  exact wk_M_sumNow_4_f cx post  n 0 0 u _ _ _ hw (lv_sub hl [2, 1, 0] rfl) h
set_option maxRecDepth 100000 in
set_option maxHeartbeats 4000000 in
theorem wk_M_search_104 {p : Program} {l : Launch} {e : Env} {s : State} {m : MethodId} {args : Array Value} {below : List Frame} {meth : Method} {c : Code} {A : Nat → Prop} {D : va_G} {cI cZ cL : ClassId} {a : Nat → Nat} (cx : zz_Cx p s m args meth c "GridFillsModel" b_M_search 7 (some .int) D zz_cl (zz_ty cI cZ cL) A) (post : Int32 → zz_St → Prop) {kn27 : Int32 → Int32 → Int32 → Int32 → Int32 → zz_St → Prop} (hkn27 : ∀ (x1 : Int32) (x2 : Int32) (x3 : Int32) (x4 : Int32) (x5 : Int32) (u : zz_St) (H : Heap) (locs : List Loc) (ls : Array Slot), zz_Wd D zz_cl A s.heap H locs (gw_M cI cZ cL a u) → lv_has ls 7 [(0, .ref (a 0)), (1, .int x1), (2, .int x2), (3, .int x3), (4, .int x4), (5, .int x5)] → kn27 x1 x2 x3 x4 x5 u → W p l e (rm_M_search) s m args below meth c H locs 0 0 (MQ below (va_Qi post (zz_B D zz_cl (zz_ty cI cZ cL) (gw_M cI cZ cL a) A) A) args s 0 0 A) (F0 m 27 ls [])) : ∀ (x1 : Int32) (x2 : Int32) (x3 : Int32) (x4 : Int32) (u : zz_St) (H : Heap) (locs : List Loc) (ls : Array Slot), zz_Wd D zz_cl A s.heap H locs (gw_M cI cZ cL a u) → lv_has ls 7 [(0, .ref (a 0)), (1, .int x1), (2, .int x2), (3, .int x3), (4, .int x4)] → wp_M_search_104 post kn27 x1 x2 x3 x4 u → W p l e (rm_M_search) s m args below meth c H locs 0 0 (MQ below (va_Qi post (zz_B D zz_cl (zz_ty cI cZ cL) (gw_M cI cZ cL a) A) A) args s 0 0 A) (F0 m 104 ls []) := by
  intro x1 x2 x3 x4 u H locs ls hw hl h
  unfold wp_M_search_104 at h
  obtain ⟨hx, hb, hr, hml, hown, hts, hlk, hK, hA⟩ := id cx
  refine lv_iload_n hx hb d_M_search_104 rfl (lv_at hl 2 rfl) ?_
  refine lv_if_ne (tgt := 110) hx hb d_M_search_105 (by decide) (fun c16 => ?_) (fun c16 => ?_)
  · replace h := h.2 c16
    refine lv_iinc (v := x4 + (-1)) (lv' := [(4, .int (x4 + (-1))), (0, .ref (a 0)), (1, .int x1), (2, .int x2), (3, .int x3)]) hx hb d_M_search_110 hl (k := 4) rfl rfl (by decide) rfl (fun ls hl => ?_)
    refine lv_iconst (v := 0) hx hb d_M_search_113 (by decide) ?_
    refine lv_istore (lv' := [(5, .int 0), (4, .int (x4 + (-1))), (0, .ref (a 0)), (1, .int x1), (2, .int x2), (3, .int x3)]) hx hb d_M_search_114 hl (by decide) rfl (fun ls hl => ?_)
    refine lv_goto (tgt := 27) hx hb d_M_search_116 (by decide) ?_
    exact hkn27 x1 x2 x3 (x4 + (-1)) 0 u _ _ _ hw (lv_sub hl [2, 3, 4, 5, 1, 0] rfl) h
  · replace h := h.1 c16
    refine lv_iconst (v := 0) hx hb d_M_search_108 (by decide) ?_
    exact zz_reti cx hw d_M_search_109 h
set_option maxRecDepth 100000 in
set_option maxHeartbeats 4000000 in
theorem wk_M_search_77 {p : Program} {l : Launch} {e : Env} {s : State} {m : MethodId} {args : Array Value} {below : List Frame} {meth : Method} {c : Code} {A : Nat → Prop} {D : va_G} {cI cZ cL : ClassId} {a : Nat → Nat} (cx : zz_Cx p s m args meth c "GridFillsModel" b_M_search 7 (some .int) D zz_cl (zz_ty cI cZ cL) A) (post : Int32 → zz_St → Prop) {kn27 : Int32 → Int32 → Int32 → Int32 → Int32 → zz_St → Prop} {kn77 : Int32 → Int32 → Int32 → Int32 → Int32 → zz_St → Prop} (hkn27 : ∀ (x1 : Int32) (x2 : Int32) (x3 : Int32) (x4 : Int32) (x5 : Int32) (u : zz_St) (H : Heap) (locs : List Loc) (ls : Array Slot), zz_Wd D zz_cl A s.heap H locs (gw_M cI cZ cL a u) → lv_has ls 7 [(0, .ref (a 0)), (1, .int x1), (2, .int x2), (3, .int x3), (4, .int x4), (5, .int x5)] → kn27 x1 x2 x3 x4 x5 u → W p l e (rm_M_search) s m args below meth c H locs 0 0 (MQ below (va_Qi post (zz_B D zz_cl (zz_ty cI cZ cL) (gw_M cI cZ cL a) A) A) args s 0 0 A) (F0 m 27 ls [])) (hkn77 : ∀ (x1 : Int32) (x2 : Int32) (x3 : Int32) (x4 : Int32) (x6 : Int32) (u : zz_St) (H : Heap) (locs : List Loc) (ls : Array Slot), zz_Wd D zz_cl A s.heap H locs (gw_M cI cZ cL a u) → lv_has ls 7 [(0, .ref (a 0)), (1, .int x1), (2, .int x2), (3, .int x3), (4, .int x4), (6, .int x6)] → kn77 x1 x2 x3 x4 x6 u → W p l e (rm_M_search) s m args below meth c H locs 0 0 (MQ below (va_Qi post (zz_B D zz_cl (zz_ty cI cZ cL) (gw_M cI cZ cL a) A) A) args s 0 0 A) (F0 m 77 ls [])) : ∀ (x1 : Int32) (x2 : Int32) (x3 : Int32) (x4 : Int32) (x6 : Int32) (u : zz_St) (H : Heap) (locs : List Loc) (ls : Array Slot), zz_Wd D zz_cl A s.heap H locs (gw_M cI cZ cL a u) → lv_has ls 7 [(0, .ref (a 0)), (1, .int x1), (2, .int x2), (3, .int x3), (4, .int x4), (6, .int x6)] → wp_M_search_77 post kn27 kn77 x1 x2 x3 x4 x6 u → W p l e (rm_M_search) s m args below meth c H locs 0 0 (MQ below (va_Qi post (zz_B D zz_cl (zz_ty cI cZ cL) (gw_M cI cZ cL a) A) A) args s 0 0 A) (F0 m 77 ls []) := by
  intro x1 x2 x3 x4 x6 u H locs ls hw hl h
  unfold wp_M_search_77 at h
  obtain ⟨hx, hb, hr, hml, hown, hts, hlk, hK, hA⟩ := id cx
  refine lv_iload hx hb d_M_search_77 (lv_at hl 5 rfl) ?_
  refine lv_bipush (v := 36) hx hb d_M_search_79 (by decide) ?_
  refine lv_icmp_ge (tgt := 104) hx hb d_M_search_81 (by decide) (fun c14 => ?_) (fun c14 => ?_)
  · replace h := h.1 c14
    exact wk_M_search_104 cx post hkn27 x1 x2 x3 x4 u _ _ _ hw (lv_sub hl [0, 1, 2, 3, 4] rfl) h
  · replace h := h.2 c14
    refine lv_aload_n hx hb d_M_search_84 rfl (lv_at hl 0 rfl) ?_
    refine zz_get (v2 := .ref (a 12)) cx hw in_M 0 rfl rfl 18 (by decide) kw_368 rfl rfl d_M_search_85 ?_
    refine lv_iload hx hb d_M_search_88 (lv_at hl 5 rfl) ?_
    refine lv_aload_n hx hb d_M_search_90 rfl (lv_at hl 0 rfl) ?_
    refine zz_get (v2 := .ref (a 11)) cx hw in_M 0 rfl rfl 17 (by decide) kw_343 rfl rfl d_M_search_91 ?_
    refine lv_iload hx hb d_M_search_94 (lv_at hl 5 rfl) ?_
    obtain ⟨hi, h⟩ := h
    refine zz_iald (f2 := sg_a u 10) cx hw 11 0 rfl rfl hi rfl d_M_search_96 ?_
    refine lv_topi (fun v15 ev15 => ?_)
    replace h := h v15 ev15
    obtain ⟨hi, h⟩ := h
    refine zz_iast (ws' := gw_M cI cZ cL a (ss_a u 11 (upd (sg_a u 11) x6.toNatClampNeg v15))) cx hw 12 0 rfl rfl hi rfl (gw_M_a11 _ _ _ _ _ _) d_M_search_97 (fun H locs hw => ?_)
    refine lv_iinc (v := x6 + 1) (lv' := [(6, .int (x6 + 1)), (0, .ref (a 0)), (1, .int x1), (2, .int x2), (3, .int x3), (4, .int x4)]) hx hb d_M_search_98 hl (k := 5) rfl rfl (by decide) rfl (fun ls hl => ?_)
    refine lv_goto (tgt := 77) hx hb d_M_search_101 (by decide) ?_
    exact hkn77 x1 x2 x3 x4 (x6 + 1) (ss_a u 11 (upd (sg_a u 11) x6.toNatClampNeg v15)) _ _ _ hw (lv_sub hl [1, 2, 3, 4, 5, 0] rfl) h
set_option maxRecDepth 100000 in
set_option maxHeartbeats 4000000 in
theorem wk_M_search_77_f {p : Program} {l : Launch} {e : Env} {s : State} {m : MethodId} {args : Array Value} {below : List Frame} {meth : Method} {c : Code} {A : Nat → Prop} {D : va_G} {cI cZ cL : ClassId} {a : Nat → Nat} (cx : zz_Cx p s m args meth c "GridFillsModel" b_M_search 7 (some .int) D zz_cl (zz_ty cI cZ cL) A) (post : Int32 → zz_St → Prop) {kn27 : Int32 → Int32 → Int32 → Int32 → Int32 → zz_St → Prop} (hkn27 : ∀ (x1 : Int32) (x2 : Int32) (x3 : Int32) (x4 : Int32) (x5 : Int32) (u : zz_St) (H : Heap) (locs : List Loc) (ls : Array Slot), zz_Wd D zz_cl A s.heap H locs (gw_M cI cZ cL a u) → lv_has ls 7 [(0, .ref (a 0)), (1, .int x1), (2, .int x2), (3, .int x3), (4, .int x4), (5, .int x5)] → kn27 x1 x2 x3 x4 x5 u → W p l e (rm_M_search) s m args below meth c H locs 0 0 (MQ below (va_Qi post (zz_B D zz_cl (zz_ty cI cZ cL) (gw_M cI cZ cL a) A) A) args s 0 0 A) (F0 m 27 ls [])) : ∀ n : Nat, ∀ (x1 : Int32) (x2 : Int32) (x3 : Int32) (x4 : Int32) (x6 : Int32) (u : zz_St) (H : Heap) (locs : List Loc) (ls : Array Slot), zz_Wd D zz_cl A s.heap H locs (gw_M cI cZ cL a u) → lv_has ls 7 [(0, .ref (a 0)), (1, .int x1), (2, .int x2), (3, .int x3), (4, .int x4), (6, .int x6)] → wp_M_search_77_f post kn27 n x1 x2 x3 x4 x6 u → W p l e (rm_M_search) s m args below meth c H locs 0 0 (MQ below (va_Qi post (zz_B D zz_cl (zz_ty cI cZ cL) (gw_M cI cZ cL a) A) A) args s 0 0 A) (F0 m 77 ls []) := by
  intro n
  induction n with
  | zero => exact fun _ _ _ _ _ _ _ _ _ _ _ h => False.elim h
  | succ n ih => exact wk_M_search_77 cx post hkn27 ih
set_option maxRecDepth 100000 in
set_option maxHeartbeats 4000000 in
theorem wk_M_search_119 {p : Program} {l : Launch} {e : Env} {s : State} {m : MethodId} {args : Array Value} {below : List Frame} {meth : Method} {c : Code} {A : Nat → Prop} {D : va_G} {cI cZ cL : ClassId} {a : Nat → Nat} (cx : zz_Cx p s m args meth c "GridFillsModel" b_M_search 7 (some .int) D zz_cl (zz_ty cI cZ cL) A) (post : Int32 → zz_St → Prop) {kn27 : Int32 → Int32 → Int32 → Int32 → Int32 → zz_St → Prop} (hkn27 : ∀ (x1 : Int32) (x2 : Int32) (x3 : Int32) (x4 : Int32) (x5 : Int32) (u : zz_St) (H : Heap) (locs : List Loc) (ls : Array Slot), zz_Wd D zz_cl A s.heap H locs (gw_M cI cZ cL a u) → lv_has ls 7 [(0, .ref (a 0)), (1, .int x1), (2, .int x2), (3, .int x3), (4, .int x4), (5, .int x5)] → kn27 x1 x2 x3 x4 x5 u → W p l e (rm_M_search) s m args below meth c H locs 0 0 (MQ below (va_Qi post (zz_B D zz_cl (zz_ty cI cZ cL) (gw_M cI cZ cL a) A) A) args s 0 0 A) (F0 m 27 ls [])) : ∀ (x1 : Int32) (x2 : Int32) (x3 : Int32) (x4 : Int32) (u : zz_St) (H : Heap) (locs : List Loc) (ls : Array Slot), zz_Wd D zz_cl A s.heap H locs (gw_M cI cZ cL a u) → lv_has ls 7 [(0, .ref (a 0)), (1, .int x1), (2, .int x2), (3, .int x3), (4, .int x4)] → wp_M_search_119 post kn27 x1 x2 x3 x4 u → W p l e (rm_M_search) s m args below meth c H locs 0 0 (MQ below (va_Qi post (zz_B D zz_cl (zz_ty cI cZ cL) (gw_M cI cZ cL a) A) A) args s 0 0 A) (F0 m 119 ls []) := by
  intro x1 x2 x3 x4 u H locs ls hw hl h
  unfold wp_M_search_119 at h
  obtain ⟨hx, hb, hr, hml, hown, hts, hlk, hK, hA⟩ := id cx
  refine lv_aload_n hx hb d_M_search_119 rfl (lv_at hl 0 rfl) ?_
  refine zz_get (v2 := .ref (a 11)) cx hw in_M 0 rfl rfl 17 (by decide) kw_343 rfl rfl d_M_search_120 ?_
  refine lv_aload_n hx hb d_M_search_123 rfl (lv_at hl 0 rfl) ?_
  refine zz_get (v2 := .ref (a 14)) cx hw in_M 0 rfl rfl 23 (by decide) kw_369 rfl rfl d_M_search_124 ?_
  refine lv_iload hx hb d_M_search_127 (lv_at hl 4 rfl) ?_
  obtain ⟨hi, h⟩ := h
  refine zz_iald (f2 := sg_a u 13) cx hw 14 0 rfl rfl hi rfl d_M_search_129 ?_
  refine lv_iconst (v := (-1)) hx hb d_M_search_130 (by decide) ?_
  obtain ⟨hi, h⟩ := h
  refine zz_iast (ws' := gw_M cI cZ cL a (ss_a u 10 (upd (sg_a u 10) (sg_a u 13 x4.toNatClampNeg).toNatClampNeg (-1)))) cx hw 11 0 rfl rfl hi rfl (gw_M_a10 _ _ _ _ _ _) d_M_search_131 (fun H locs hw => ?_)
  refine lv_aload_n hx hb d_M_search_132 rfl (lv_at hl 0 rfl) ?_
  refine zz_get (v2 := .ref (a 16)) cx hw in_M 0 rfl rfl 25 (by decide) kw_370 rfl rfl d_M_search_133 ?_
  refine lv_iload hx hb d_M_search_136 (lv_at hl 4 rfl) ?_
  obtain ⟨hi, h⟩ := h
  refine zz_iald (f2 := sg_a u 15) cx hw 16 0 rfl rfl hi (sy_a _ _ (by decide)) d_M_search_138 ?_
  refine lv_aload_n hx hb d_M_search_139 rfl (lv_at hl 0 rfl) ?_
  refine zz_get (v2 := .ref (a 15)) cx hw in_M 0 rfl rfl 24 (by decide) kw_371 rfl rfl d_M_search_140 ?_
  refine lv_iload hx hb d_M_search_143 (lv_at hl 4 rfl) ?_
  obtain ⟨hi, h⟩ := h
  refine zz_iald (f2 := sg_a u 14) cx hw 15 0 rfl rfl hi (sy_a _ _ (by decide)) d_M_search_145 ?_
  refine lv_icmp_ne (tgt := 158) hx hb d_M_search_146 (by decide) (fun c17 => ?_) (fun c17 => ?_)
  · replace h := h.2 c17
    refine lv_aload_n hx hb d_M_search_158 rfl (lv_at hl 0 rfl) ?_
    refine zz_get (v2 := .int (sg_i u 8)) cx hw in_M 0 rfl rfl 20 (by decide) kw_378 rfl (congrArg Value.int (sx_ia _ _ _ _)) d_M_search_159 ?_
    refine lv_iload_n hx hb d_M_search_162 rfl (lv_at hl 1 rfl) ?_
    refine lv_icmp_ne (tgt := 168) hx hb d_M_search_163 (by decide) (fun c18 => ?_) (fun c18 => ?_)
    · replace h := h.2 c18
      refine lv_aload_n hx hb d_M_search_168 rfl (lv_at hl 0 rfl) ?_
      refine zz_get (v2 := .ref (a 11)) cx hw in_M 0 rfl rfl 17 (by decide) kw_343 rfl rfl d_M_search_169 ?_
      refine lv_aload_n hx hb d_M_search_172 rfl (lv_at hl 0 rfl) ?_
      refine zz_get (v2 := .ref (a 14)) cx hw in_M 0 rfl rfl 23 (by decide) kw_369 rfl rfl d_M_search_173 ?_
      refine lv_iload hx hb d_M_search_176 (lv_at hl 4 rfl) ?_
      obtain ⟨hi, h⟩ := h
      refine zz_iald (f2 := sg_a u 13) cx hw 14 0 rfl rfl hi (sy_a _ _ (by decide)) d_M_search_178 ?_
      refine lv_aload_n hx hb d_M_search_179 rfl (lv_at hl 0 rfl) ?_
      refine zz_get (v2 := .ref (a 17)) cx hw in_M 0 rfl rfl 26 (by decide) kw_372 rfl rfl d_M_search_180 ?_
      refine lv_bipush (v := 80) hx hb d_M_search_183 (by decide) ?_
      refine lv_iload hx hb d_M_search_185 (lv_at hl 4 rfl) ?_
      refine lv_imul hx hb d_M_search_187 ?_
      refine lv_aload_n hx hb d_M_search_188 rfl (lv_at hl 0 rfl) ?_
      refine zz_get (v2 := .ref (a 16)) cx hw in_M 0 rfl rfl 25 (by decide) kw_370 rfl rfl d_M_search_189 ?_
      refine lv_iload hx hb d_M_search_192 (lv_at hl 4 rfl) ?_
      obtain ⟨hi, h⟩ := h
      refine zz_iald (f2 := sg_a u 15) cx hw 16 0 rfl rfl hi (sy_a _ _ (by decide)) d_M_search_194 ?_
      refine lv_iadd hx hb d_M_search_195 ?_
      obtain ⟨hi, h⟩ := h
      refine zz_iald (f2 := sg_a u 16) cx hw 17 0 rfl rfl hi (sy_a _ _ (by decide)) d_M_search_196 ?_
      refine lv_topi (fun v19 ev19 => ?_)
      replace h := h v19 ev19
      obtain ⟨hi, h⟩ := h
      refine zz_iast (ws' := gw_M cI cZ cL a (ss_a (ss_a u 10 (upd (sg_a u 10) (sg_a u 13 x4.toNatClampNeg).toNatClampNeg (-1))) 10 (upd (upd (sg_a u 10) (sg_a u 13 x4.toNatClampNeg).toNatClampNeg (-1)) (sg_a u 13 x4.toNatClampNeg).toNatClampNeg v19))) cx hw 11 0 rfl rfl hi (sz_a _ _ _) (gw_M_a10 _ _ _ _ _ _) d_M_search_197 (fun H locs hw => ?_)
      refine lv_aload_n hx hb d_M_search_198 rfl (lv_at hl 0 rfl) ?_
      refine zz_get (v2 := .ref (a 16)) cx hw in_M 0 rfl rfl 25 (by decide) kw_370 rfl rfl d_M_search_199 ?_
      refine lv_iload hx hb d_M_search_202 (lv_at hl 4 rfl) ?_
      refine lv_dup2_11 hx hb d_M_search_204 rfl rfl ?_
      obtain ⟨hi, h⟩ := h
      refine zz_iald (f2 := sg_a u 15) cx hw 16 0 rfl rfl hi ((sy_a _ _ (by decide)).trans (sy_a _ _ (by decide))) d_M_search_205 ?_
      refine lv_iconst (v := 1) hx hb d_M_search_206 (by decide) ?_
      refine lv_iadd hx hb d_M_search_207 ?_
      refine lv_topi (fun v20 ev20 => ?_)
      replace h := h v20 ev20
      obtain ⟨hi, h⟩ := h
      refine zz_iast (ws' := gw_M cI cZ cL a (ss_a (ss_a (ss_a u 10 (upd (sg_a u 10) (sg_a u 13 x4.toNatClampNeg).toNatClampNeg (-1))) 10 (upd (upd (sg_a u 10) (sg_a u 13 x4.toNatClampNeg).toNatClampNeg (-1)) (sg_a u 13 x4.toNatClampNeg).toNatClampNeg v19)) 15 (upd (sg_a u 15) x4.toNatClampNeg v20))) cx hw 16 0 rfl rfl hi ((sy_a _ _ (by decide)).trans (sy_a _ _ (by decide))) (gw_M_a15 _ _ _ _ _ _) d_M_search_208 (fun H locs hw => ?_)
      refine lv_aload_n hx hb d_M_search_209 rfl (lv_at hl 0 rfl) ?_
      refine lv_dup hx hb d_M_search_210 rfl ?_
      refine zz_get (v2 := .int (sg_i u 8)) cx hw in_M 0 rfl rfl 20 (by decide) kw_378 rfl (congrArg Value.int ((sx_ia _ _ _ _).trans ((sx_ia _ _ _ _).trans (sx_ia _ _ _ _)))) d_M_search_211 ?_
      refine lv_iconst (v := 1) hx hb d_M_search_214 (by decide) ?_
      refine lv_iadd hx hb d_M_search_215 ?_
      refine lv_topi (fun v21 ev21 => ?_)
      replace h := h v21 ev21
      refine zz_put (v := .int v21) (ws' := gw_M cI cZ cL a (ss_i (ss_a (ss_a (ss_a u 10 (upd (sg_a u 10) (sg_a u 13 x4.toNatClampNeg).toNatClampNeg (-1))) 10 (upd (upd (sg_a u 10) (sg_a u 13 x4.toNatClampNeg).toNatClampNeg (-1)) (sg_a u 13 x4.toNatClampNeg).toNatClampNeg v19)) 15 (upd (sg_a u 15) x4.toNatClampNeg v20)) 8 v21)) cx hw in_M ty_M tk_M nm_M 0 rfl rfl 20 (by decide) kw_378 rfl ⟨rfl, rfl⟩ (Nat.le_of_ble_eq_true rfl) (gw_M_i8 _ _ _ _ _ _) d_M_search_216 (fun H locs hw => ?_)
      refine lv_iinc (v := x4 + 1) (lv' := [(4, .int (x4 + 1)), (0, .ref (a 0)), (1, .int x1), (2, .int x2), (3, .int x3)]) hx hb d_M_search_219 hl (k := 4) rfl rfl (by decide) rfl (fun ls hl => ?_)
      refine lv_iconst (v := 1) hx hb d_M_search_222 (by decide) ?_
      refine lv_istore (lv' := [(5, .int 1), (4, .int (x4 + 1)), (0, .ref (a 0)), (1, .int x1), (2, .int x2), (3, .int x3)]) hx hb d_M_search_223 hl (by decide) rfl (fun ls hl => ?_)
      refine lv_goto (tgt := 27) hx hb d_M_search_225 (by decide) ?_
      exact hkn27 x1 x2 x3 (x4 + 1) 1 (ss_i (ss_a (ss_a (ss_a u 10 (upd (sg_a u 10) (sg_a u 13 x4.toNatClampNeg).toNatClampNeg (-1))) 10 (upd (upd (sg_a u 10) (sg_a u 13 x4.toNatClampNeg).toNatClampNeg (-1)) (sg_a u 13 x4.toNatClampNeg).toNatClampNeg v19)) 15 (upd (sg_a u 15) x4.toNatClampNeg v20)) 8 v21) _ _ _ hw (lv_sub hl [2, 3, 4, 5, 1, 0] rfl) h
    · replace h := h.1 c18
      refine lv_iconst (v := 2) hx hb d_M_search_166 (by decide) ?_
      exact zz_reti cx hw d_M_search_167 h
  · replace h := h.1 c17
    refine lv_iinc (v := x4 + (-1)) (lv' := [(4, .int (x4 + (-1))), (0, .ref (a 0)), (1, .int x1), (2, .int x2), (3, .int x3)]) hx hb d_M_search_149 hl (k := 4) rfl rfl (by decide) rfl (fun ls hl => ?_)
    refine lv_iconst (v := 0) hx hb d_M_search_152 (by decide) ?_
    refine lv_istore (lv' := [(5, .int 0), (4, .int (x4 + (-1))), (0, .ref (a 0)), (1, .int x1), (2, .int x2), (3, .int x3)]) hx hb d_M_search_153 hl (by decide) rfl (fun ls hl => ?_)
    refine lv_goto (tgt := 27) hx hb d_M_search_155 (by decide) ?_
    exact hkn27 x1 x2 x3 (x4 + (-1)) 0 (ss_a u 10 (upd (sg_a u 10) (sg_a u 13 x4.toNatClampNeg).toNatClampNeg (-1))) _ _ _ hw (lv_sub hl [2, 3, 4, 5, 1, 0] rfl) h
set_option maxRecDepth 100000 in
set_option maxHeartbeats 4000000 in
theorem wk_M_search_27 {p : Program} {l : Launch} {e : Env} {s : State} {m : MethodId} {args : Array Value} {below : List Frame} {meth : Method} {c : Code} {A : Nat → Prop} {D : va_G} {cI cZ cL : ClassId} {a : Nat → Nat} (cx : zz_Cx p s m args meth c "GridFillsModel" b_M_search 7 (some .int) D zz_cl (zz_ty cI cZ cL) A) (post : Int32 → zz_St → Prop) {kn27 : Int32 → Int32 → Int32 → Int32 → Int32 → zz_St → Prop} (hkn27 : ∀ (x1 : Int32) (x2 : Int32) (x3 : Int32) (x4 : Int32) (x5 : Int32) (u : zz_St) (H : Heap) (locs : List Loc) (ls : Array Slot), zz_Wd D zz_cl A s.heap H locs (gw_M cI cZ cL a u) → lv_has ls 7 [(0, .ref (a 0)), (1, .int x1), (2, .int x2), (3, .int x3), (4, .int x4), (5, .int x5)] → kn27 x1 x2 x3 x4 x5 u → W p l e (rm_M_search) s m args below meth c H locs 0 0 (MQ below (va_Qi post (zz_B D zz_cl (zz_ty cI cZ cL) (gw_M cI cZ cL a) A) A) args s 0 0 A) (F0 m 27 ls [])) : ∀ (x1 : Int32) (x2 : Int32) (x3 : Int32) (x4 : Int32) (x5 : Int32) (u : zz_St) (H : Heap) (locs : List Loc) (ls : Array Slot), zz_Wd D zz_cl A s.heap H locs (gw_M cI cZ cL a u) → lv_has ls 7 [(0, .ref (a 0)), (1, .int x1), (2, .int x2), (3, .int x3), (4, .int x4), (5, .int x5)] → wp_M_search_27 post kn27 x1 x2 x3 x4 x5 u → W p l e (rm_M_search) s m args below meth c H locs 0 0 (MQ below (va_Qi post (zz_B D zz_cl (zz_ty cI cZ cL) (gw_M cI cZ cL a) A) A) args s 0 0 A) (F0 m 27 ls []) := by
  intro x1 x2 x3 x4 x5 u H locs ls hw hl h
  unfold wp_M_search_27 at h
  obtain ⟨hx, hb, hr, hml, hown, hts, hlk, hK, hA⟩ := id cx
  refine lv_iload hx hb d_M_search_27 (lv_at hl 4 rfl) ?_
  refine lv_if_lt (tgt := 228) hx hb d_M_search_29 (by decide) (fun c2 => ?_) (fun c2 => ?_)
  · replace h := h.1 c2
    refine lv_aload_n hx hb d_M_search_228 rfl (lv_at hl 0 rfl) ?_
    refine zz_get (v2 := .int (sg_i u 7)) cx hw in_M 0 rfl rfl 19 (by decide) kw_319 rfl rfl d_M_search_229 ?_
    refine lv_if_eq (tgt := 239) hx hb d_M_search_232 (by decide) (fun c3 => ?_) (fun c3 => ?_)
    · replace h := h.1 c3
      refine lv_iconst (v := 1) hx hb d_M_search_239 (by decide) ?_
      exact zz_reti cx hw d_M_search_240 h
    · replace h := h.2 c3
      refine lv_iconst (v := 0) hx hb d_M_search_235 (by decide) ?_
      refine lv_goto (tgt := 240) hx hb d_M_search_236 (by decide) ?_
      exact zz_reti cx hw d_M_search_240 h
  · replace h := h.2 c2
    refine lv_iload hx hb d_M_search_32 (lv_at hl 5 rfl) ?_
    refine lv_if_eq (tgt := 119) hx hb d_M_search_34 (by decide) (fun c4 => ?_) (fun c4 => ?_)
    · replace h := h.1 c4
      exact wk_M_search_119 cx post hkn27 x1 x2 x3 x4 u _ _ _ hw (lv_sub hl [0, 1, 2, 3, 4] rfl) h
    · replace h := h.2 c4
      refine lv_aload_n hx hb d_M_search_37 rfl (lv_at hl 0 rfl) ?_
      refine lv_iload hx hb d_M_search_38 (lv_at hl 4 rfl) ?_
      refine zz_callVi (As := [.int x4]) (rest := []) cx hw (ct_M_open l D cI cZ cL a h) (zz_gV kw_383 kw_385 kw_386 kw_301 kw_384) hd_M_open ⟨rfl, rfl⟩ ⟨Nat.le_of_ble_eq_true rfl, Nat.le_of_ble_eq_true rfl⟩ 0 rfl rfl rfl rfl hl.1 rfl (Nat.le_of_ble_eq_true rfl) d_M_search_40 (fun r6 s5 H locs h hw => ?_)
      refine lv_if_ne (tgt := 119) hx hb d_M_search_43 (by decide) (fun c7 => ?_) (fun c7 => ?_)
      · replace h := h.2 c7
        exact wk_M_search_119 cx post hkn27 x1 x2 x3 x4 s5 _ _ _ hw (lv_sub hl [0, 1, 2, 3, 4] rfl) h
      · replace h := h.1 c7
        refine lv_aload_n hx hb d_M_search_46 rfl (lv_at hl 0 rfl) ?_
        refine lv_dup hx hb d_M_search_47 rfl ?_
        refine zz_get (v2 := .int (sg_i s5 9)) cx hw in_M 0 rfl rfl 21 (by decide) kw_377 rfl rfl d_M_search_48 ?_
        refine lv_iconst (v := 1) hx hb d_M_search_51 (by decide) ?_
        refine lv_iadd hx hb d_M_search_52 ?_
        refine lv_topi (fun v8 ev8 => ?_)
        replace h := h v8 ev8
        refine zz_put (v := .int v8) (ws' := gw_M cI cZ cL a (ss_i s5 9 v8)) cx hw in_M ty_M tk_M nm_M 0 rfl rfl 21 (by decide) kw_377 rfl ⟨rfl, rfl⟩ (Nat.le_of_ble_eq_true rfl) (gw_M_i9 _ _ _ _ _ _) d_M_search_53 (fun H locs hw => ?_)
        refine lv_aload_n hx hb d_M_search_56 rfl (lv_at hl 0 rfl) ?_
        refine zz_callVi (As := []) (rest := []) cx hw (ct_M_sumNow l D cI cZ cL a h) (zz_gV kw_379 kw_381 kw_382 kw_301 kw_380) hd_M_sumNow ⟨rfl, rfl⟩ ⟨Nat.le_of_ble_eq_true rfl, Nat.le_of_ble_eq_true rfl⟩ 0 rfl rfl rfl rfl hl.1 rfl (Nat.le_of_ble_eq_true rfl) d_M_search_57 (fun r10 s9 H locs h hw => ?_)
        refine lv_iload_n hx hb d_M_search_60 rfl (lv_at hl 3 rfl) ?_
        refine lv_icmp_le (tgt := 104) hx hb d_M_search_61 (by decide) (fun c11 => ?_) (fun c11 => ?_)
        · replace h := h.1 c11
          exact wk_M_search_104 cx post hkn27 x1 x2 x3 x4 s9 _ _ _ hw (lv_sub hl [0, 1, 2, 3, 4] rfl) h
        · replace h := h.2 c11
          refine lv_aload_n hx hb d_M_search_64 rfl (lv_at hl 0 rfl) ?_
          refine zz_callVi (As := []) (rest := []) cx hw (ct_M_sumNow l D cI cZ cL a h) (zz_gV kw_379 kw_381 kw_382 kw_301 kw_380) hd_M_sumNow ⟨rfl, rfl⟩ ⟨Nat.le_of_ble_eq_true rfl, Nat.le_of_ble_eq_true rfl⟩ 0 rfl rfl rfl rfl hl.1 rfl (Nat.le_of_ble_eq_true rfl) d_M_search_65 (fun r13 s12 H locs h hw => ?_)
          refine lv_istore_n (lv' := [(3, .int r13), (0, .ref (a 0)), (1, .int x1), (2, .int x2), (4, .int x4), (5, .int x5)]) hx hb d_M_search_68 rfl hl (by decide) rfl (fun ls hl => ?_)
          refine lv_aload_n hx hb d_M_search_69 rfl (lv_at hl 1 rfl) ?_
          refine lv_iconst (v := 1) hx hb d_M_search_70 (by decide) ?_
          refine zz_put (v := .int 1) (ws' := gw_M cI cZ cL a (ss_i s12 7 1)) cx hw in_M ty_M tk_M nm_M 0 rfl rfl 19 (by decide) kw_319 rfl ⟨rfl, rfl⟩ (Nat.le_of_ble_eq_true rfl) (gw_M_i7 _ _ _ _ _ _) d_M_search_71 (fun H locs hw => ?_)
          refine lv_iconst (v := 0) hx hb d_M_search_74 (by decide) ?_
          refine lv_istore (lv' := [(6, .int 0), (3, .int r13), (0, .ref (a 0)), (1, .int x1), (2, .int x2), (4, .int x4), (5, .int x5)]) hx hb d_M_search_75 hl (by decide) rfl (fun ls hl => ?_)
          obtain ⟨n, h⟩ := h
          exact wk_M_search_77_f cx post hkn27 n x1 x2 r13 x4 0 (ss_i s12 7 1) _ _ _ hw (lv_sub hl [2, 3, 4, 1, 5, 0] rfl) h
set_option maxRecDepth 100000 in
set_option maxHeartbeats 4000000 in
theorem wk_M_search_27_f {p : Program} {l : Launch} {e : Env} {s : State} {m : MethodId} {args : Array Value} {below : List Frame} {meth : Method} {c : Code} {A : Nat → Prop} {D : va_G} {cI cZ cL : ClassId} {a : Nat → Nat} (cx : zz_Cx p s m args meth c "GridFillsModel" b_M_search 7 (some .int) D zz_cl (zz_ty cI cZ cL) A) (post : Int32 → zz_St → Prop) : ∀ n : Nat, ∀ (x1 : Int32) (x2 : Int32) (x3 : Int32) (x4 : Int32) (x5 : Int32) (u : zz_St) (H : Heap) (locs : List Loc) (ls : Array Slot), zz_Wd D zz_cl A s.heap H locs (gw_M cI cZ cL a u) → lv_has ls 7 [(0, .ref (a 0)), (1, .int x1), (2, .int x2), (3, .int x3), (4, .int x4), (5, .int x5)] → wp_M_search_27_f post n x1 x2 x3 x4 x5 u → W p l e (rm_M_search) s m args below meth c H locs 0 0 (MQ below (va_Qi post (zz_B D zz_cl (zz_ty cI cZ cL) (gw_M cI cZ cL a) A) A) args s 0 0 A) (F0 m 27 ls []) := by
  intro n
  induction n with
  | zero => exact fun _ _ _ _ _ _ _ _ _ _ _ h => False.elim h
  | succ n ih => exact wk_M_search_27 cx post ih
set_option maxRecDepth 100000 in
set_option maxHeartbeats 4000000 in
theorem ct_M_search (l : Launch) (D : va_G) (cI cZ cL : ClassId) (a : Nat → Nat) {a0 : Int32} {a1 : Int32} {u : zz_St} {post : Int32 → zz_St → Prop} (h : wp_M_search  a0 a1 u post) : zz_MI l y_M_search (.code y_M_search b_M_search 7 (some .int) :: zz_tbl) (rm_M_search) D zz_cl (zz_ty cI cZ cL) (gw_M cI cZ cL a) [.ref (a 0), .int a0, .int a1] u post := by
  unfold wp_M_search at h
  refine zz_ofI (by decide) (Nat.le_of_ble_eq_true rfl) ?_
  intro p e s m below meth c A cx hw ls hl
  obtain ⟨hx, hb, hr, hml, hown, hts, hlk, hK, hA⟩ := id cx
  refine lv_aload_n hx hb d_M_search_0 rfl (lv_at hl 0 rfl) ?_
  refine zz_callVv (As := []) (rest := []) cx hw (ct_M_clearNow l D cI cZ cL a h) (zz_gV kw_364 kw_366 kw_367 kw_301 kw_365) hd_M_clearNow ⟨rfl, rfl⟩ ⟨Nat.le_of_ble_eq_true rfl, Nat.le_of_ble_eq_true rfl⟩ 0 rfl rfl rfl rfl hl.1 rfl (Nat.le_of_ble_eq_true rfl) d_M_search_1 (fun s1 H locs h hw => ?_)
  refine lv_aload_n hx hb d_M_search_4 rfl (lv_at hl 0 rfl) ?_
  refine lv_iconst (v := 0) hx hb d_M_search_5 (by decide) ?_
  refine zz_put (v := .int 0) (ws' := gw_M cI cZ cL a (ss_i s1 7 0)) cx hw in_M ty_M tk_M nm_M 0 rfl rfl 19 (by decide) kw_319 rfl ⟨rfl, rfl⟩ (Nat.le_of_ble_eq_true rfl) (gw_M_i7 _ _ _ _ _ _) d_M_search_6 (fun H locs hw => ?_)
  refine lv_aload_n hx hb d_M_search_9 rfl (lv_at hl 0 rfl) ?_
  refine lv_iconst (v := 0) hx hb d_M_search_10 (by decide) ?_
  refine zz_put (v := .int 0) (ws' := gw_M cI cZ cL a (ss_i (ss_i s1 7 0) 8 0)) cx hw in_M ty_M tk_M nm_M 0 rfl rfl 20 (by decide) kw_378 rfl ⟨rfl, rfl⟩ (Nat.le_of_ble_eq_true rfl) (gw_M_i8 _ _ _ _ _ _) d_M_search_11 (fun H locs hw => ?_)
  refine lv_aload_n hx hb d_M_search_14 rfl (lv_at hl 0 rfl) ?_
  refine lv_iconst (v := 0) hx hb d_M_search_15 (by decide) ?_
  refine zz_put (v := .int 0) (ws' := gw_M cI cZ cL a (ss_i (ss_i (ss_i s1 7 0) 8 0) 9 0)) cx hw in_M ty_M tk_M nm_M 0 rfl rfl 21 (by decide) kw_377 rfl ⟨rfl, rfl⟩ (Nat.le_of_ble_eq_true rfl) (gw_M_i9 _ _ _ _ _ _) d_M_search_16 (fun H locs hw => ?_)
  refine lv_iconst (v := (-1)) hx hb d_M_search_19 (by decide) ?_
  refine lv_istore_n (lv' := [(3, .int (-1)), (0, .ref (a 0)), (1, .int a0), (2, .int a1)]) hx hb d_M_search_20 rfl hl (by decide) rfl (fun ls hl => ?_)
  refine lv_iconst (v := 0) hx hb d_M_search_21 (by decide) ?_
  refine lv_istore (lv' := [(4, .int 0), (3, .int (-1)), (0, .ref (a 0)), (1, .int a0), (2, .int a1)]) hx hb d_M_search_22 hl (by decide) rfl (fun ls hl => ?_)
  refine lv_iconst (v := 1) hx hb d_M_search_24 (by decide) ?_
  refine lv_istore (lv' := [(5, .int 1), (4, .int 0), (3, .int (-1)), (0, .ref (a 0)), (1, .int a0), (2, .int a1)]) hx hb d_M_search_25 hl (by decide) rfl (fun ls hl => ?_)
  obtain ⟨n, h⟩ := h
  exact wk_M_search_27_f cx post  n a0 a1 (-1) 0 1 (ss_i (ss_i (ss_i s1 7 0) 8 0) 9 0) _ _ _ hw (lv_sub hl [3, 4, 5, 2, 1, 0] rfl) h
set_option maxRecDepth 100000 in
set_option maxHeartbeats 4000000 in
theorem wk_M_run_16 {p : Program} {l : Launch} {e : Env} {s : State} {m : MethodId} {args : Array Value} {below : List Frame} {meth : Method} {c : Code} {A : Nat → Prop} {D : va_G} {cI cZ cL : ClassId} {a : Nat → Nat} (cx : zz_Cx p s m args meth c "GridFillsModel" b_M_run 2 (some .int) D zz_cl (zz_ty cI cZ cL) A) (post : Int32 → zz_St → Prop) : ∀ (u : zz_St) (H : Heap) (locs : List Loc) (ls : Array Slot), zz_Wd D zz_cl A s.heap H locs (gw_M cI cZ cL a u) → lv_has ls 2 [] → wp_M_run_16 post u → W p l e (rm_M_run) s m args below meth c H locs 0 0 (MQ below (va_Qi post (zz_B D zz_cl (zz_ty cI cZ cL) (gw_M cI cZ cL a) A) A) args s 0 0 A) (F0 m 16 ls []) := by
  intro u H locs ls hw hl h
  unfold wp_M_run_16 at h
  obtain ⟨hx, hb, hr, hml, hown, hts, hlk, hK, hA⟩ := id cx
  refine lv_iconst (v := (-1)) hx hb d_M_run_16 (by decide) ?_
  refine lv_goto (tgt := 26) hx hb d_M_run_17 (by decide) ?_
  exact zz_reti cx hw d_M_run_26 h
set_option maxRecDepth 100000 in
set_option maxHeartbeats 4000000 in
theorem ct_M_run (l : Launch) (D : va_G) (cI cZ cL : ClassId) (a : Nat → Nat) {a0 : Int32} {u : zz_St} {post : Int32 → zz_St → Prop} (h : wp_M_run  a0 u post) : zz_MI l y_M_run (.code y_M_run b_M_run 2 (some .int) :: zz_tbl) (rm_M_run) D zz_cl (zz_ty cI cZ cL) (gw_M cI cZ cL a) [.ref (a 0), .int a0] u post := by
  unfold wp_M_run at h
  refine zz_ofI (by decide) (Nat.le_of_ble_eq_true rfl) ?_
  intro p e s m below meth c A cx hw ls hl
  obtain ⟨hx, hb, hr, hml, hown, hts, hlk, hK, hA⟩ := id cx
  refine lv_aload_n hx hb d_M_run_0 rfl (lv_at hl 0 rfl) ?_
  refine lv_iconst (v := 0) hx hb d_M_run_1 (by decide) ?_
  refine zz_put (v := .int 0) (ws' := gw_M cI cZ cL a (ss_i u 0 0)) cx hw in_M ty_M tk_M nm_M 0 rfl rfl 0 (by decide) kw_314 rfl ⟨rfl, rfl⟩ (Nat.le_of_ble_eq_true rfl) (gw_M_i0 _ _ _ _ _ _) d_M_run_2 (fun H locs hw => ?_)
  refine lv_iload_n hx hb d_M_run_5 rfl (lv_at hl 1 rfl) ?_
  refine lv_if_lt (tgt := 16) hx hb d_M_run_6 (by decide) (fun c1 => ?_) (fun c1 => ?_)
  · replace h := h.1 c1
    exact wk_M_run_16 cx post  (ss_i u 0 0) _ _ _ hw (lv_sub hl [] rfl) h
  · replace h := h.2 c1
    refine lv_iload_n hx hb d_M_run_9 rfl (lv_at hl 1 rfl) ?_
    refine lv_sipush (v := 20000) hx hb d_M_run_10 (by decide) ?_
    refine lv_icmp_le (tgt := 20) hx hb d_M_run_13 (by decide) (fun c2 => ?_) (fun c2 => ?_)
    · replace h := h.1 c2
      refine lv_aload_n hx hb d_M_run_20 rfl (lv_at hl 0 rfl) ?_
      refine lv_iload_n hx hb d_M_run_21 rfl (lv_at hl 1 rfl) ?_
      refine lv_iconst (v := 0) hx hb d_M_run_22 (by decide) ?_
      refine zz_callVi (As := [.int a0, .int 0]) (rest := []) cx hw (ct_M_search l D cI cZ cL a h) (zz_gV kw_387 kw_389 kw_390 kw_301 kw_388) hd_M_search ⟨rfl, rfl⟩ ⟨Nat.le_of_ble_eq_true rfl, Nat.le_of_ble_eq_true rfl⟩ 0 rfl rfl rfl rfl hl.1 rfl (Nat.le_of_ble_eq_true rfl) d_M_run_23 (fun r4 s3 H locs h hw => ?_)
      exact zz_reti cx hw d_M_run_26 h
    · replace h := h.2 c2
      exact wk_M_run_16 cx post  (ss_i u 0 0) _ _ _ hw (lv_sub hl [] rfl) h
set_option maxRecDepth 100000 in
set_option maxHeartbeats 4000000 in
theorem wk_M_best_16 {p : Program} {l : Launch} {e : Env} {s : State} {m : MethodId} {args : Array Value} {below : List Frame} {meth : Method} {c : Code} {A : Nat → Prop} {D : va_G} {cI cZ cL : ClassId} {a : Nat → Nat} (cx : zz_Cx p s m args meth c "GridFillsModel" b_M_best 2 (some .int) D zz_cl (zz_ty cI cZ cL) A) (post : Int32 → zz_St → Prop) : ∀ (u : zz_St) (H : Heap) (locs : List Loc) (ls : Array Slot), zz_Wd D zz_cl A s.heap H locs (gw_M cI cZ cL a u) → lv_has ls 2 [] → wp_M_best_16 post u → W p l e (rm_M_best) s m args below meth c H locs 0 0 (MQ below (va_Qi post (zz_B D zz_cl (zz_ty cI cZ cL) (gw_M cI cZ cL a) A) A) args s 0 0 A) (F0 m 16 ls []) := by
  intro u H locs ls hw hl h
  unfold wp_M_best_16 at h
  obtain ⟨hx, hb, hr, hml, hown, hts, hlk, hK, hA⟩ := id cx
  refine lv_iconst (v := (-1)) hx hb d_M_best_16 (by decide) ?_
  refine lv_goto (tgt := 26) hx hb d_M_best_17 (by decide) ?_
  exact zz_reti cx hw d_M_best_26 h
set_option maxRecDepth 100000 in
set_option maxHeartbeats 4000000 in
theorem ct_M_best (l : Launch) (D : va_G) (cI cZ cL : ClassId) (a : Nat → Nat) {a0 : Int32} {u : zz_St} {post : Int32 → zz_St → Prop} (h : wp_M_best  a0 u post) : zz_MI l y_M_best (.code y_M_best b_M_best 2 (some .int) :: zz_tbl) (rm_M_best) D zz_cl (zz_ty cI cZ cL) (gw_M cI cZ cL a) [.ref (a 0), .int a0] u post := by
  unfold wp_M_best at h
  refine zz_ofI (by decide) (Nat.le_of_ble_eq_true rfl) ?_
  intro p e s m below meth c A cx hw ls hl
  obtain ⟨hx, hb, hr, hml, hown, hts, hlk, hK, hA⟩ := id cx
  refine lv_aload_n hx hb d_M_best_0 rfl (lv_at hl 0 rfl) ?_
  refine lv_iconst (v := 0) hx hb d_M_best_1 (by decide) ?_
  refine zz_put (v := .int 0) (ws' := gw_M cI cZ cL a (ss_i u 0 0)) cx hw in_M ty_M tk_M nm_M 0 rfl rfl 0 (by decide) kw_314 rfl ⟨rfl, rfl⟩ (Nat.le_of_ble_eq_true rfl) (gw_M_i0 _ _ _ _ _ _) d_M_best_2 (fun H locs hw => ?_)
  refine lv_iload_n hx hb d_M_best_5 rfl (lv_at hl 1 rfl) ?_
  refine lv_if_lt (tgt := 16) hx hb d_M_best_6 (by decide) (fun c1 => ?_) (fun c1 => ?_)
  · replace h := h.1 c1
    exact wk_M_best_16 cx post  (ss_i u 0 0) _ _ _ hw (lv_sub hl [] rfl) h
  · replace h := h.2 c1
    refine lv_iload_n hx hb d_M_best_9 rfl (lv_at hl 1 rfl) ?_
    refine lv_sipush (v := 20000) hx hb d_M_best_10 (by decide) ?_
    refine lv_icmp_le (tgt := 20) hx hb d_M_best_13 (by decide) (fun c2 => ?_) (fun c2 => ?_)
    · replace h := h.1 c2
      refine lv_aload_n hx hb d_M_best_20 rfl (lv_at hl 0 rfl) ?_
      refine lv_iload_n hx hb d_M_best_21 rfl (lv_at hl 1 rfl) ?_
      refine lv_iconst (v := 1) hx hb d_M_best_22 (by decide) ?_
      refine zz_callVi (As := [.int a0, .int 1]) (rest := []) cx hw (ct_M_search l D cI cZ cL a h) (zz_gV kw_387 kw_389 kw_390 kw_301 kw_388) hd_M_search ⟨rfl, rfl⟩ ⟨Nat.le_of_ble_eq_true rfl, Nat.le_of_ble_eq_true rfl⟩ 0 rfl rfl rfl rfl hl.1 rfl (Nat.le_of_ble_eq_true rfl) d_M_best_23 (fun r4 s3 H locs h hw => ?_)
      exact zz_reti cx hw d_M_best_26 h
    · replace h := h.2 c2
      exact wk_M_best_16 cx post  (ss_i u 0 0) _ _ _ hw (lv_sub hl [] rfl) h
set_option maxRecDepth 100000 in
set_option maxHeartbeats 4000000 in
theorem ct_M_steps (l : Launch) (D : va_G) (cI cZ cL : ClassId) (a : Nat → Nat) {u : zz_St} {post : Int32 → zz_St → Prop} (h : wp_M_steps  u post) : zz_MI l y_M_steps (.code y_M_steps b_M_steps 1 (some .int) :: zz_tbl) (rm_M_steps) D zz_cl (zz_ty cI cZ cL) (gw_M cI cZ cL a) [.ref (a 0)] u post := by
  unfold wp_M_steps at h
  refine zz_ofI (by decide) (Nat.le_of_ble_eq_true rfl) ?_
  intro p e s m below meth c A cx hw ls hl
  obtain ⟨hx, hb, hr, hml, hown, hts, hlk, hK, hA⟩ := id cx
  refine lv_aload_n hx hb d_M_steps_0 rfl (lv_at hl 0 rfl) ?_
  refine lv_iconst (v := 0) hx hb d_M_steps_1 (by decide) ?_
  refine zz_put (v := .int 0) (ws' := gw_M cI cZ cL a (ss_i u 0 0)) cx hw in_M ty_M tk_M nm_M 0 rfl rfl 0 (by decide) kw_314 rfl ⟨rfl, rfl⟩ (Nat.le_of_ble_eq_true rfl) (gw_M_i0 _ _ _ _ _ _) d_M_steps_2 (fun H locs hw => ?_)
  refine lv_aload_n hx hb d_M_steps_5 rfl (lv_at hl 0 rfl) ?_
  refine zz_get (v2 := .int (sg_i u 8)) cx hw in_M 0 rfl rfl 20 (by decide) kw_378 rfl (congrArg Value.int (sy_i _ _ (by decide))) d_M_steps_6 ?_
  exact zz_reti cx hw d_M_steps_9 h
set_option maxRecDepth 100000 in
set_option maxHeartbeats 4000000 in
theorem ct_M_many (l : Launch) (D : va_G) (cI cZ cL : ClassId) (a : Nat → Nat) {u : zz_St} {post : Int32 → zz_St → Prop} (h : wp_M_many  u post) : zz_MI l y_M_many (.code y_M_many b_M_many 1 (some .int) :: zz_tbl) (rm_M_many) D zz_cl (zz_ty cI cZ cL) (gw_M cI cZ cL a) [.ref (a 0)] u post := by
  unfold wp_M_many at h
  refine zz_ofI (by decide) (Nat.le_of_ble_eq_true rfl) ?_
  intro p e s m below meth c A cx hw ls hl
  obtain ⟨hx, hb, hr, hml, hown, hts, hlk, hK, hA⟩ := id cx
  refine lv_aload_n hx hb d_M_many_0 rfl (lv_at hl 0 rfl) ?_
  refine lv_iconst (v := 0) hx hb d_M_many_1 (by decide) ?_
  refine zz_put (v := .int 0) (ws' := gw_M cI cZ cL a (ss_i u 0 0)) cx hw in_M ty_M tk_M nm_M 0 rfl rfl 0 (by decide) kw_314 rfl ⟨rfl, rfl⟩ (Nat.le_of_ble_eq_true rfl) (gw_M_i0 _ _ _ _ _ _) d_M_many_2 (fun H locs hw => ?_)
  refine lv_aload_n hx hb d_M_many_5 rfl (lv_at hl 0 rfl) ?_
  refine zz_get (v2 := .int (sg_i u 9)) cx hw in_M 0 rfl rfl 21 (by decide) kw_377 rfl (congrArg Value.int (sy_i _ _ (by decide))) d_M_many_6 ?_
  exact zz_reti cx hw d_M_many_9 h
set_option maxRecDepth 100000 in
set_option maxHeartbeats 4000000 in
theorem wk_M_score_18 {p : Program} {l : Launch} {e : Env} {s : State} {m : MethodId} {args : Array Value} {below : List Frame} {meth : Method} {c : Code} {A : Nat → Prop} {D : va_G} {cI cZ cL : ClassId} {a : Nat → Nat} (cx : zz_Cx p s m args meth c "GridFillsModel" b_M_score 3 (some .int) D zz_cl (zz_ty cI cZ cL) A) (post : Int32 → zz_St → Prop) {kn18 : Int32 → Int32 → zz_St → Prop} (hkn18 : ∀ (x1 : Int32) (x2 : Int32) (u : zz_St) (H : Heap) (locs : List Loc) (ls : Array Slot), zz_Wd D zz_cl A s.heap H locs (gw_M cI cZ cL a u) → lv_has ls 3 [(0, .ref (a 0)), (1, .int x1), (2, .int x2)] → kn18 x1 x2 u → W p l e (rm_M_score) s m args below meth c H locs 0 0 (MQ below (va_Qi post (zz_B D zz_cl (zz_ty cI cZ cL) (gw_M cI cZ cL a) A) A) args s 0 0 A) (F0 m 18 ls [])) : ∀ (x1 : Int32) (x2 : Int32) (u : zz_St) (H : Heap) (locs : List Loc) (ls : Array Slot), zz_Wd D zz_cl A s.heap H locs (gw_M cI cZ cL a u) → lv_has ls 3 [(0, .ref (a 0)), (1, .int x1), (2, .int x2)] → wp_M_score_18 post kn18 x1 x2 u → W p l e (rm_M_score) s m args below meth c H locs 0 0 (MQ below (va_Qi post (zz_B D zz_cl (zz_ty cI cZ cL) (gw_M cI cZ cL a) A) A) args s 0 0 A) (F0 m 18 ls []) := by
  intro x1 x2 u H locs ls hw hl h
  unfold wp_M_score_18 at h
  obtain ⟨hx, hb, hr, hml, hown, hts, hlk, hK, hA⟩ := id cx
  refine lv_iload_n hx hb d_M_score_18 rfl (lv_at hl 2 rfl) ?_
  refine lv_aload_n hx hb d_M_score_19 rfl (lv_at hl 0 rfl) ?_
  refine zz_get (v2 := .int (sg_i u 5)) cx hw in_M 0 rfl rfl 11 (by decide) kw_304 rfl rfl d_M_score_20 ?_
  refine lv_icmp_ge (tgt := 46) hx hb d_M_score_23 (by decide) (fun c2 => ?_) (fun c2 => ?_)
  · replace h := h.1 c2
    refine lv_iload_n hx hb d_M_score_46 rfl (lv_at hl 1 rfl) ?_
    exact zz_reti cx hw d_M_score_47 h
  · replace h := h.2 c2
    refine lv_iload_n hx hb d_M_score_26 rfl (lv_at hl 1 rfl) ?_
    refine lv_aload_n hx hb d_M_score_27 rfl (lv_at hl 0 rfl) ?_
    refine zz_get (v2 := .ref (a 6)) cx hw in_M 0 rfl rfl 10 (by decide) kw_333 rfl rfl d_M_score_28 ?_
    refine lv_aload_n hx hb d_M_score_31 rfl (lv_at hl 0 rfl) ?_
    refine zz_get (v2 := .ref (a 12)) cx hw in_M 0 rfl rfl 18 (by decide) kw_368 rfl rfl d_M_score_32 ?_
    refine lv_iload_n hx hb d_M_score_35 rfl (lv_at hl 2 rfl) ?_
    obtain ⟨hi, h⟩ := h
    refine zz_iald (f2 := sg_a u 11) cx hw 12 0 rfl rfl hi rfl d_M_score_36 ?_
    obtain ⟨hi, h⟩ := h
    refine zz_iald (f2 := sg_a u 5) cx hw 6 0 rfl rfl hi rfl d_M_score_37 ?_
    refine lv_iadd hx hb d_M_score_38 ?_
    refine lv_topi (fun v3 ev3 => ?_)
    replace h := h v3 ev3
    refine lv_istore_n (lv' := [(1, .int v3), (0, .ref (a 0)), (2, .int x2)]) hx hb d_M_score_39 rfl hl (by decide) rfl (fun ls hl => ?_)
    refine lv_iinc (v := x2 + 1) (lv' := [(2, .int (x2 + 1)), (1, .int v3), (0, .ref (a 0))]) hx hb d_M_score_40 hl (k := 2) rfl rfl (by decide) rfl (fun ls hl => ?_)
    refine lv_goto (tgt := 18) hx hb d_M_score_43 (by decide) ?_
    exact hkn18 v3 (x2 + 1) u _ _ _ hw (lv_sub hl [2, 1, 0] rfl) h
set_option maxRecDepth 100000 in
set_option maxHeartbeats 4000000 in
theorem wk_M_score_18_f {p : Program} {l : Launch} {e : Env} {s : State} {m : MethodId} {args : Array Value} {below : List Frame} {meth : Method} {c : Code} {A : Nat → Prop} {D : va_G} {cI cZ cL : ClassId} {a : Nat → Nat} (cx : zz_Cx p s m args meth c "GridFillsModel" b_M_score 3 (some .int) D zz_cl (zz_ty cI cZ cL) A) (post : Int32 → zz_St → Prop) : ∀ n : Nat, ∀ (x1 : Int32) (x2 : Int32) (u : zz_St) (H : Heap) (locs : List Loc) (ls : Array Slot), zz_Wd D zz_cl A s.heap H locs (gw_M cI cZ cL a u) → lv_has ls 3 [(0, .ref (a 0)), (1, .int x1), (2, .int x2)] → wp_M_score_18_f post n x1 x2 u → W p l e (rm_M_score) s m args below meth c H locs 0 0 (MQ below (va_Qi post (zz_B D zz_cl (zz_ty cI cZ cL) (gw_M cI cZ cL a) A) A) args s 0 0 A) (F0 m 18 ls []) := by
  intro n
  induction n with
  | zero => exact fun _ _ _ _ _ _ _ _ h => False.elim h
  | succ n ih => exact wk_M_score_18 cx post ih
set_option maxRecDepth 100000 in
set_option maxHeartbeats 4000000 in
theorem ct_M_score (l : Launch) (D : va_G) (cI cZ cL : ClassId) (a : Nat → Nat) {u : zz_St} {post : Int32 → zz_St → Prop} (h : wp_M_score  u post) : zz_MI l y_M_score (.code y_M_score b_M_score 3 (some .int) :: zz_tbl) (rm_M_score) D zz_cl (zz_ty cI cZ cL) (gw_M cI cZ cL a) [.ref (a 0)] u post := by
  unfold wp_M_score at h
  refine zz_ofI (by decide) (Nat.le_of_ble_eq_true rfl) ?_
  intro p e s m below meth c A cx hw ls hl
  obtain ⟨hx, hb, hr, hml, hown, hts, hlk, hK, hA⟩ := id cx
  refine lv_aload_n hx hb d_M_score_0 rfl (lv_at hl 0 rfl) ?_
  refine lv_iconst (v := 0) hx hb d_M_score_1 (by decide) ?_
  refine zz_put (v := .int 0) (ws' := gw_M cI cZ cL a (ss_i u 0 0)) cx hw in_M ty_M tk_M nm_M 0 rfl rfl 0 (by decide) kw_314 rfl ⟨rfl, rfl⟩ (Nat.le_of_ble_eq_true rfl) (gw_M_i0 _ _ _ _ _ _) d_M_score_2 (fun H locs hw => ?_)
  refine lv_aload_n hx hb d_M_score_5 rfl (lv_at hl 0 rfl) ?_
  refine zz_get (v2 := .int (sg_i u 7)) cx hw in_M 0 rfl rfl 19 (by decide) kw_319 rfl (congrArg Value.int (sy_i _ _ (by decide))) d_M_score_6 ?_
  refine lv_if_ne (tgt := 14) hx hb d_M_score_9 (by decide) (fun c1 => ?_) (fun c1 => ?_)
  · replace h := h.2 c1
    refine lv_iconst (v := 0) hx hb d_M_score_14 (by decide) ?_
    refine lv_istore_n (lv' := [(1, .int 0), (0, .ref (a 0))]) hx hb d_M_score_15 rfl hl (by decide) rfl (fun ls hl => ?_)
    refine lv_iconst (v := 0) hx hb d_M_score_16 (by decide) ?_
    refine lv_istore_n (lv' := [(2, .int 0), (1, .int 0), (0, .ref (a 0))]) hx hb d_M_score_17 rfl hl (by decide) rfl (fun ls hl => ?_)
    obtain ⟨n, h⟩ := h
    exact wk_M_score_18_f cx post  n 0 0 (ss_i u 0 0) _ _ _ hw (lv_sub hl [2, 1, 0] rfl) h
  · replace h := h.1 c1
    refine lv_iconst (v := (-1)) hx hb d_M_score_12 (by decide) ?_
    exact zz_reti cx hw d_M_score_13 h
set_option maxRecDepth 100000 in
set_option maxHeartbeats 4000000 in
theorem wk_M_letter_36 {p : Program} {l : Launch} {e : Env} {s : State} {m : MethodId} {args : Array Value} {below : List Frame} {meth : Method} {c : Code} {A : Nat → Prop} {D : va_G} {cI cZ cL : ClassId} {a : Nat → Nat} (cx : zz_Cx p s m args meth c "GridFillsModel" b_M_letter 5 (some .int) D zz_cl (zz_ty cI cZ cL) A) (post : Int32 → zz_St → Prop) {kn18 : Int32 → Int32 → Int32 → zz_St → Prop} {kn36 : Int32 → Int32 → Int32 → Int32 → zz_St → Prop} (hkn18 : ∀ (x1 : Int32) (x2 : Int32) (x3 : Int32) (u : zz_St) (H : Heap) (locs : List Loc) (ls : Array Slot), zz_Wd D zz_cl A s.heap H locs (gw_M cI cZ cL a u) → lv_has ls 5 [(0, .ref (a 0)), (1, .int x1), (2, .int x2), (3, .int x3)] → kn18 x1 x2 x3 u → W p l e (rm_M_letter) s m args below meth c H locs 0 0 (MQ below (va_Qi post (zz_B D zz_cl (zz_ty cI cZ cL) (gw_M cI cZ cL a) A) A) args s 0 0 A) (F0 m 18 ls [])) (hkn36 : ∀ (x1 : Int32) (x2 : Int32) (x3 : Int32) (x4 : Int32) (u : zz_St) (H : Heap) (locs : List Loc) (ls : Array Slot), zz_Wd D zz_cl A s.heap H locs (gw_M cI cZ cL a u) → lv_has ls 5 [(0, .ref (a 0)), (1, .int x1), (2, .int x2), (3, .int x3), (4, .int x4)] → kn36 x1 x2 x3 x4 u → W p l e (rm_M_letter) s m args below meth c H locs 0 0 (MQ below (va_Qi post (zz_B D zz_cl (zz_ty cI cZ cL) (gw_M cI cZ cL a) A) A) args s 0 0 A) (F0 m 36 ls [])) : ∀ (x1 : Int32) (x2 : Int32) (x3 : Int32) (x4 : Int32) (u : zz_St) (H : Heap) (locs : List Loc) (ls : Array Slot), zz_Wd D zz_cl A s.heap H locs (gw_M cI cZ cL a u) → lv_has ls 5 [(0, .ref (a 0)), (1, .int x1), (2, .int x2), (3, .int x3), (4, .int x4)] → wp_M_letter_36 post kn18 kn36 x1 x2 x3 x4 u → W p l e (rm_M_letter) s m args below meth c H locs 0 0 (MQ below (va_Qi post (zz_B D zz_cl (zz_ty cI cZ cL) (gw_M cI cZ cL a) A) A) args s 0 0 A) (F0 m 36 ls []) := by
  intro x1 x2 x3 x4 u H locs ls hw hl h
  unfold wp_M_letter_36 at h
  obtain ⟨hx, hb, hr, hml, hown, hts, hlk, hK, hA⟩ := id cx
  refine lv_iload hx hb d_M_letter_36 (lv_at hl 4 rfl) ?_
  refine lv_aload_n hx hb d_M_letter_38 rfl (lv_at hl 0 rfl) ?_
  refine zz_get (v2 := .ref (a 8)) cx hw in_M 0 rfl rfl 13 (by decide) kw_307 rfl rfl d_M_letter_39 ?_
  refine lv_iload_n hx hb d_M_letter_42 rfl (lv_at hl 3 rfl) ?_
  obtain ⟨hi, h⟩ := h
  refine zz_iald (f2 := sg_a u 7) cx hw 8 0 rfl rfl hi rfl d_M_letter_43 ?_
  refine lv_icmp_ge (tgt := 89) hx hb d_M_letter_44 (by decide) (fun c6 => ?_) (fun c6 => ?_)
  · replace h := h.1 c6
    refine lv_iinc (v := x3 + 1) (lv' := [(3, .int (x3 + 1)), (0, .ref (a 0)), (1, .int x1), (2, .int x2), (4, .int x4)]) hx hb d_M_letter_89 hl (k := 3) rfl rfl (by decide) rfl (fun ls hl => ?_)
    refine lv_goto (tgt := 18) hx hb d_M_letter_92 (by decide) ?_
    exact hkn18 x1 x2 (x3 + 1) u _ _ _ hw (lv_sub hl [1, 2, 3, 0] rfl) h
  · replace h := h.2 c6
    refine lv_aload_n hx hb d_M_letter_47 rfl (lv_at hl 0 rfl) ?_
    refine lv_iload_n hx hb d_M_letter_48 rfl (lv_at hl 3 rfl) ?_
    refine lv_iload hx hb d_M_letter_49 (lv_at hl 4 rfl) ?_
    refine zz_callVi (As := [.int x3, .int x4]) (rest := []) cx hw (ct_M_cellOf l D cI cZ cL a h) (zz_gV kw_344 kw_346 kw_347 kw_301 kw_345) hd_M_cellOf ⟨rfl, rfl⟩ ⟨Nat.le_of_ble_eq_true rfl, Nat.le_of_ble_eq_true rfl⟩ 0 rfl rfl rfl rfl hl.1 rfl (Nat.le_of_ble_eq_true rfl) d_M_letter_51 (fun r8 s7 H locs h hw => ?_)
    refine lv_aload_n hx hb d_M_letter_54 rfl (lv_at hl 0 rfl) ?_
    refine zz_get (v2 := .int (sg_i s7 1)) cx hw in_M 0 rfl rfl 1 (by decide) kw_296 rfl rfl d_M_letter_55 ?_
    refine lv_iload_n hx hb d_M_letter_58 rfl (lv_at hl 2 rfl) ?_
    refine lv_imul hx hb d_M_letter_59 ?_
    refine lv_iload_n hx hb d_M_letter_60 rfl (lv_at hl 1 rfl) ?_
    refine lv_iadd hx hb d_M_letter_61 ?_
    refine lv_icmp_ne (tgt := 83) hx hb d_M_letter_62 (by decide) (fun c9 => ?_) (fun c9 => ?_)
    · replace h := h.2 c9
      refine lv_iinc (v := x4 + 1) (lv' := [(4, .int (x4 + 1)), (0, .ref (a 0)), (1, .int x1), (2, .int x2), (3, .int x3)]) hx hb d_M_letter_83 hl (k := 4) rfl rfl (by decide) rfl (fun ls hl => ?_)
      refine lv_goto (tgt := 36) hx hb d_M_letter_86 (by decide) ?_
      exact hkn36 x1 x2 x3 (x4 + 1) s7 _ _ _ hw (lv_sub hl [1, 2, 3, 4, 0] rfl) h
    · replace h := h.1 c9
      refine lv_aload_n hx hb d_M_letter_65 rfl (lv_at hl 0 rfl) ?_
      refine zz_get (v2 := .ref (a 5)) cx hw in_M 0 rfl rfl 9 (by decide) kw_327 rfl rfl d_M_letter_66 ?_
      refine lv_bipush (v := 6) hx hb d_M_letter_69 (by decide) ?_
      refine lv_aload_n hx hb d_M_letter_71 rfl (lv_at hl 0 rfl) ?_
      refine zz_get (v2 := .ref (a 12)) cx hw in_M 0 rfl rfl 18 (by decide) kw_368 rfl rfl d_M_letter_72 ?_
      refine lv_iload_n hx hb d_M_letter_75 rfl (lv_at hl 3 rfl) ?_
      obtain ⟨hi, h⟩ := h
      refine zz_iald (f2 := sg_a s7 11) cx hw 12 0 rfl rfl hi rfl d_M_letter_76 ?_
      refine lv_imul hx hb d_M_letter_77 ?_
      refine lv_iload hx hb d_M_letter_78 (lv_at hl 4 rfl) ?_
      refine lv_iadd hx hb d_M_letter_80 ?_
      obtain ⟨hi, h⟩ := h
      refine zz_iald (f2 := sg_a s7 4) cx hw 5 0 rfl rfl hi rfl d_M_letter_81 ?_
      exact zz_reti cx hw d_M_letter_82 h
set_option maxRecDepth 100000 in
set_option maxHeartbeats 4000000 in
theorem wk_M_letter_36_f {p : Program} {l : Launch} {e : Env} {s : State} {m : MethodId} {args : Array Value} {below : List Frame} {meth : Method} {c : Code} {A : Nat → Prop} {D : va_G} {cI cZ cL : ClassId} {a : Nat → Nat} (cx : zz_Cx p s m args meth c "GridFillsModel" b_M_letter 5 (some .int) D zz_cl (zz_ty cI cZ cL) A) (post : Int32 → zz_St → Prop) {kn18 : Int32 → Int32 → Int32 → zz_St → Prop} (hkn18 : ∀ (x1 : Int32) (x2 : Int32) (x3 : Int32) (u : zz_St) (H : Heap) (locs : List Loc) (ls : Array Slot), zz_Wd D zz_cl A s.heap H locs (gw_M cI cZ cL a u) → lv_has ls 5 [(0, .ref (a 0)), (1, .int x1), (2, .int x2), (3, .int x3)] → kn18 x1 x2 x3 u → W p l e (rm_M_letter) s m args below meth c H locs 0 0 (MQ below (va_Qi post (zz_B D zz_cl (zz_ty cI cZ cL) (gw_M cI cZ cL a) A) A) args s 0 0 A) (F0 m 18 ls [])) : ∀ n : Nat, ∀ (x1 : Int32) (x2 : Int32) (x3 : Int32) (x4 : Int32) (u : zz_St) (H : Heap) (locs : List Loc) (ls : Array Slot), zz_Wd D zz_cl A s.heap H locs (gw_M cI cZ cL a u) → lv_has ls 5 [(0, .ref (a 0)), (1, .int x1), (2, .int x2), (3, .int x3), (4, .int x4)] → wp_M_letter_36_f post kn18 n x1 x2 x3 x4 u → W p l e (rm_M_letter) s m args below meth c H locs 0 0 (MQ below (va_Qi post (zz_B D zz_cl (zz_ty cI cZ cL) (gw_M cI cZ cL a) A) A) args s 0 0 A) (F0 m 36 ls []) := by
  intro n
  induction n with
  | zero => exact fun _ _ _ _ _ _ _ _ _ _ h => False.elim h
  | succ n ih => exact wk_M_letter_36 cx post hkn18 ih
set_option maxRecDepth 100000 in
set_option maxHeartbeats 4000000 in
theorem wk_M_letter_18 {p : Program} {l : Launch} {e : Env} {s : State} {m : MethodId} {args : Array Value} {below : List Frame} {meth : Method} {c : Code} {A : Nat → Prop} {D : va_G} {cI cZ cL : ClassId} {a : Nat → Nat} (cx : zz_Cx p s m args meth c "GridFillsModel" b_M_letter 5 (some .int) D zz_cl (zz_ty cI cZ cL) A) (post : Int32 → zz_St → Prop) {kn18 : Int32 → Int32 → Int32 → zz_St → Prop} (hkn18 : ∀ (x1 : Int32) (x2 : Int32) (x3 : Int32) (u : zz_St) (H : Heap) (locs : List Loc) (ls : Array Slot), zz_Wd D zz_cl A s.heap H locs (gw_M cI cZ cL a u) → lv_has ls 5 [(0, .ref (a 0)), (1, .int x1), (2, .int x2), (3, .int x3)] → kn18 x1 x2 x3 u → W p l e (rm_M_letter) s m args below meth c H locs 0 0 (MQ below (va_Qi post (zz_B D zz_cl (zz_ty cI cZ cL) (gw_M cI cZ cL a) A) A) args s 0 0 A) (F0 m 18 ls [])) : ∀ (x1 : Int32) (x2 : Int32) (x3 : Int32) (u : zz_St) (H : Heap) (locs : List Loc) (ls : Array Slot), zz_Wd D zz_cl A s.heap H locs (gw_M cI cZ cL a u) → lv_has ls 5 [(0, .ref (a 0)), (1, .int x1), (2, .int x2), (3, .int x3)] → wp_M_letter_18 post kn18 x1 x2 x3 u → W p l e (rm_M_letter) s m args below meth c H locs 0 0 (MQ below (va_Qi post (zz_B D zz_cl (zz_ty cI cZ cL) (gw_M cI cZ cL a) A) A) args s 0 0 A) (F0 m 18 ls []) := by
  intro x1 x2 x3 u H locs ls hw hl h
  unfold wp_M_letter_18 at h
  obtain ⟨hx, hb, hr, hml, hown, hts, hlk, hK, hA⟩ := id cx
  refine lv_iload_n hx hb d_M_letter_18 rfl (lv_at hl 3 rfl) ?_
  refine lv_aload_n hx hb d_M_letter_19 rfl (lv_at hl 0 rfl) ?_
  refine zz_get (v2 := .int (sg_i u 5)) cx hw in_M 0 rfl rfl 11 (by decide) kw_304 rfl rfl d_M_letter_20 ?_
  refine lv_icmp_ge (tgt := 95) hx hb d_M_letter_23 (by decide) (fun c4 => ?_) (fun c4 => ?_)
  · replace h := h.1 c4
    refine lv_iconst (v := 0) hx hb d_M_letter_95 (by decide) ?_
    exact zz_reti cx hw d_M_letter_96 h
  · replace h := h.2 c4
    refine lv_aload_n hx hb d_M_letter_26 rfl (lv_at hl 0 rfl) ?_
    refine zz_get (v2 := .int (sg_i u 7)) cx hw in_M 0 rfl rfl 19 (by decide) kw_319 rfl rfl d_M_letter_27 ?_
    refine lv_if_eq (tgt := 95) hx hb d_M_letter_30 (by decide) (fun c5 => ?_) (fun c5 => ?_)
    · replace h := h.1 c5
      refine lv_iconst (v := 0) hx hb d_M_letter_95 (by decide) ?_
      exact zz_reti cx hw d_M_letter_96 h
    · replace h := h.2 c5
      refine lv_iconst (v := 0) hx hb d_M_letter_33 (by decide) ?_
      refine lv_istore (lv' := [(4, .int 0), (0, .ref (a 0)), (1, .int x1), (2, .int x2), (3, .int x3)]) hx hb d_M_letter_34 hl (by decide) rfl (fun ls hl => ?_)
      obtain ⟨n, h⟩ := h
      exact wk_M_letter_36_f cx post hkn18 n x1 x2 x3 0 u _ _ _ hw (lv_sub hl [1, 2, 3, 4, 0] rfl) h
set_option maxRecDepth 100000 in
set_option maxHeartbeats 4000000 in
theorem wk_M_letter_18_f {p : Program} {l : Launch} {e : Env} {s : State} {m : MethodId} {args : Array Value} {below : List Frame} {meth : Method} {c : Code} {A : Nat → Prop} {D : va_G} {cI cZ cL : ClassId} {a : Nat → Nat} (cx : zz_Cx p s m args meth c "GridFillsModel" b_M_letter 5 (some .int) D zz_cl (zz_ty cI cZ cL) A) (post : Int32 → zz_St → Prop) : ∀ n : Nat, ∀ (x1 : Int32) (x2 : Int32) (x3 : Int32) (u : zz_St) (H : Heap) (locs : List Loc) (ls : Array Slot), zz_Wd D zz_cl A s.heap H locs (gw_M cI cZ cL a u) → lv_has ls 5 [(0, .ref (a 0)), (1, .int x1), (2, .int x2), (3, .int x3)] → wp_M_letter_18_f post n x1 x2 x3 u → W p l e (rm_M_letter) s m args below meth c H locs 0 0 (MQ below (va_Qi post (zz_B D zz_cl (zz_ty cI cZ cL) (gw_M cI cZ cL a) A) A) args s 0 0 A) (F0 m 18 ls []) := by
  intro n
  induction n with
  | zero => exact fun _ _ _ _ _ _ _ _ _ h => False.elim h
  | succ n ih => exact wk_M_letter_18 cx post ih
set_option maxRecDepth 100000 in
set_option maxHeartbeats 4000000 in
theorem ct_M_letter (l : Launch) (D : va_G) (cI cZ cL : ClassId) (a : Nat → Nat) {a0 : Int32} {a1 : Int32} {u : zz_St} {post : Int32 → zz_St → Prop} (h : wp_M_letter  a0 a1 u post) : zz_MI l y_M_letter (.code y_M_letter b_M_letter 5 (some .int) :: zz_tbl) (rm_M_letter) D zz_cl (zz_ty cI cZ cL) (gw_M cI cZ cL a) [.ref (a 0), .int a0, .int a1] u post := by
  unfold wp_M_letter at h
  refine zz_ofI (by decide) (Nat.le_of_ble_eq_true rfl) ?_
  intro p e s m below meth c A cx hw ls hl
  obtain ⟨hx, hb, hr, hml, hown, hts, hlk, hK, hA⟩ := id cx
  refine lv_aload_n hx hb d_M_letter_0 rfl (lv_at hl 0 rfl) ?_
  refine lv_iconst (v := 0) hx hb d_M_letter_1 (by decide) ?_
  refine zz_put (v := .int 0) (ws' := gw_M cI cZ cL a (ss_i u 0 0)) cx hw in_M ty_M tk_M nm_M 0 rfl rfl 0 (by decide) kw_314 rfl ⟨rfl, rfl⟩ (Nat.le_of_ble_eq_true rfl) (gw_M_i0 _ _ _ _ _ _) d_M_letter_2 (fun H locs hw => ?_)
  refine lv_aload_n hx hb d_M_letter_5 rfl (lv_at hl 0 rfl) ?_
  refine lv_iload_n hx hb d_M_letter_6 rfl (lv_at hl 1 rfl) ?_
  refine lv_iload_n hx hb d_M_letter_7 rfl (lv_at hl 2 rfl) ?_
  refine zz_callVi (As := [.int a0, .int a1]) (rest := []) cx hw (ct_M_isCell l D cI cZ cL a h) (zz_gV kw_299 kw_302 kw_303 kw_301 kw_300) hd_M_isCell ⟨rfl, rfl⟩ ⟨Nat.le_of_ble_eq_true rfl, Nat.le_of_ble_eq_true rfl⟩ 0 rfl rfl rfl rfl hl.1 rfl (Nat.le_of_ble_eq_true rfl) d_M_letter_8 (fun r2 s1 H locs h hw => ?_)
  refine lv_if_ne (tgt := 16) hx hb d_M_letter_11 (by decide) (fun c3 => ?_) (fun c3 => ?_)
  · replace h := h.2 c3
    refine lv_iconst (v := 0) hx hb d_M_letter_16 (by decide) ?_
    refine lv_istore_n (lv' := [(3, .int 0), (0, .ref (a 0)), (1, .int a0), (2, .int a1)]) hx hb d_M_letter_17 rfl hl (by decide) rfl (fun ls hl => ?_)
    obtain ⟨n, h⟩ := h
    exact wk_M_letter_18_f cx post  n a0 a1 0 s1 _ _ _ hw (lv_sub hl [1, 2, 3, 0] rfl) h
  · replace h := h.1 c3
    refine lv_iconst (v := (-1)) hx hb d_M_letter_14 (by decide) ?_
    exact zz_reti cx hw d_M_letter_15 h
set_option maxRecDepth 100000 in
set_option maxHeartbeats 4000000 in
theorem wk_M_check_105 {p : Program} {l : Launch} {e : Env} {s : State} {m : MethodId} {args : Array Value} {below : List Frame} {meth : Method} {c : Code} {A : Nat → Prop} {D : va_G} {cI cZ cL : ClassId} {a : Nat → Nat} (cx : zz_Cx p s m args meth c "GridFillsModel" b_M_check 4 (some .int) D zz_cl (zz_ty cI cZ cL) A) (post : Int32 → zz_St → Prop) {kn16 : Int32 → zz_St → Prop} {kn55 : Int32 → Int32 → zz_St → Prop} (hkn16 : ∀ (x1 : Int32) (u : zz_St) (H : Heap) (locs : List Loc) (ls : Array Slot), zz_Wd D zz_cl A s.heap H locs (gw_M cI cZ cL a u) → lv_has ls 4 [(0, .ref (a 0)), (1, .int x1)] → kn16 x1 u → W p l e (rm_M_check) s m args below meth c H locs 0 0 (MQ below (va_Qi post (zz_B D zz_cl (zz_ty cI cZ cL) (gw_M cI cZ cL a) A) A) args s 0 0 A) (F0 m 16 ls [])) (hkn55 : ∀ (x1 : Int32) (x2 : Int32) (u : zz_St) (H : Heap) (locs : List Loc) (ls : Array Slot), zz_Wd D zz_cl A s.heap H locs (gw_M cI cZ cL a u) → lv_has ls 4 [(0, .ref (a 0)), (1, .int x1), (2, .int x2)] → kn55 x1 x2 u → W p l e (rm_M_check) s m args below meth c H locs 0 0 (MQ below (va_Qi post (zz_B D zz_cl (zz_ty cI cZ cL) (gw_M cI cZ cL a) A) A) args s 0 0 A) (F0 m 55 ls [])) : ∀ (x1 : Int32) (x2 : Int32) (u : zz_St) (H : Heap) (locs : List Loc) (ls : Array Slot), zz_Wd D zz_cl A s.heap H locs (gw_M cI cZ cL a u) → lv_has ls 4 [(0, .ref (a 0)), (1, .int x1), (2, .int x2)] → wp_M_check_105 post kn16 kn55 x1 x2 u → W p l e (rm_M_check) s m args below meth c H locs 0 0 (MQ below (va_Qi post (zz_B D zz_cl (zz_ty cI cZ cL) (gw_M cI cZ cL a) A) A) args s 0 0 A) (F0 m 105 ls []) := by
  intro x1 x2 u H locs ls hw hl h
  unfold wp_M_check_105 at h
  obtain ⟨hx, hb, hr, hml, hown, hts, hlk, hK, hA⟩ := id cx
  refine lv_iinc (v := x2 + 1) (lv' := [(2, .int (x2 + 1)), (0, .ref (a 0)), (1, .int x1)]) hx hb d_M_check_105 hl (k := 2) rfl rfl (by decide) rfl (fun ls hl => ?_)
  refine lv_goto (tgt := 55) hx hb d_M_check_108 (by decide) ?_
  exact hkn55 x1 (x2 + 1) u _ _ _ hw (lv_sub hl [1, 2, 0] rfl) h
set_option maxRecDepth 100000 in
set_option maxHeartbeats 4000000 in
theorem wk_M_check_55 {p : Program} {l : Launch} {e : Env} {s : State} {m : MethodId} {args : Array Value} {below : List Frame} {meth : Method} {c : Code} {A : Nat → Prop} {D : va_G} {cI cZ cL : ClassId} {a : Nat → Nat} (cx : zz_Cx p s m args meth c "GridFillsModel" b_M_check 4 (some .int) D zz_cl (zz_ty cI cZ cL) A) (post : Int32 → zz_St → Prop) {kn16 : Int32 → zz_St → Prop} {kn55 : Int32 → Int32 → zz_St → Prop} (hkn16 : ∀ (x1 : Int32) (u : zz_St) (H : Heap) (locs : List Loc) (ls : Array Slot), zz_Wd D zz_cl A s.heap H locs (gw_M cI cZ cL a u) → lv_has ls 4 [(0, .ref (a 0)), (1, .int x1)] → kn16 x1 u → W p l e (rm_M_check) s m args below meth c H locs 0 0 (MQ below (va_Qi post (zz_B D zz_cl (zz_ty cI cZ cL) (gw_M cI cZ cL a) A) A) args s 0 0 A) (F0 m 16 ls [])) (hkn55 : ∀ (x1 : Int32) (x2 : Int32) (u : zz_St) (H : Heap) (locs : List Loc) (ls : Array Slot), zz_Wd D zz_cl A s.heap H locs (gw_M cI cZ cL a u) → lv_has ls 4 [(0, .ref (a 0)), (1, .int x1), (2, .int x2)] → kn55 x1 x2 u → W p l e (rm_M_check) s m args below meth c H locs 0 0 (MQ below (va_Qi post (zz_B D zz_cl (zz_ty cI cZ cL) (gw_M cI cZ cL a) A) A) args s 0 0 A) (F0 m 55 ls [])) : ∀ (x1 : Int32) (x2 : Int32) (u : zz_St) (H : Heap) (locs : List Loc) (ls : Array Slot), zz_Wd D zz_cl A s.heap H locs (gw_M cI cZ cL a u) → lv_has ls 4 [(0, .ref (a 0)), (1, .int x1), (2, .int x2)] → wp_M_check_55 post kn16 kn55 x1 x2 u → W p l e (rm_M_check) s m args below meth c H locs 0 0 (MQ below (va_Qi post (zz_B D zz_cl (zz_ty cI cZ cL) (gw_M cI cZ cL a) A) A) args s 0 0 A) (F0 m 55 ls []) := by
  intro x1 x2 u H locs ls hw hl h
  unfold wp_M_check_55 at h
  obtain ⟨hx, hb, hr, hml, hown, hts, hlk, hK, hA⟩ := id cx
  refine lv_iload_n hx hb d_M_check_55 rfl (lv_at hl 2 rfl) ?_
  refine lv_aload_n hx hb d_M_check_56 rfl (lv_at hl 0 rfl) ?_
  refine zz_get (v2 := .ref (a 8)) cx hw in_M 0 rfl rfl 13 (by decide) kw_307 rfl rfl d_M_check_57 ?_
  refine lv_iload_n hx hb d_M_check_60 rfl (lv_at hl 1 rfl) ?_
  obtain ⟨hi, h⟩ := h
  refine zz_iald (f2 := sg_a u 7) cx hw 8 0 rfl rfl hi rfl d_M_check_61 ?_
  refine lv_icmp_ge (tgt := 111) hx hb d_M_check_62 (by decide) (fun c5 => ?_) (fun c5 => ?_)
  · replace h := h.1 c5
    refine lv_iinc (v := x1 + 1) (lv' := [(1, .int (x1 + 1)), (0, .ref (a 0)), (2, .int x2)]) hx hb d_M_check_111 hl (k := 1) rfl rfl (by decide) rfl (fun ls hl => ?_)
    refine lv_goto (tgt := 16) hx hb d_M_check_114 (by decide) ?_
    exact hkn16 (x1 + 1) u _ _ _ hw (lv_sub hl [1, 0] rfl) h
  · replace h := h.2 c5
    refine lv_aload_n hx hb d_M_check_65 rfl (lv_at hl 0 rfl) ?_
    refine zz_get (v2 := .ref (a 2)) cx hw in_M 0 rfl rfl 4 (by decide) kw_320 rfl rfl d_M_check_66 ?_
    refine lv_aload_n hx hb d_M_check_69 rfl (lv_at hl 0 rfl) ?_
    refine lv_iload_n hx hb d_M_check_70 rfl (lv_at hl 1 rfl) ?_
    refine lv_iload_n hx hb d_M_check_71 rfl (lv_at hl 2 rfl) ?_
    refine zz_callVi (As := [.int x1, .int x2]) (rest := [.ref (a 2)]) cx hw (ct_M_cellOf l D cI cZ cL a h) (zz_gV kw_344 kw_346 kw_347 kw_301 kw_345) hd_M_cellOf ⟨rfl, rfl⟩ ⟨Nat.le_of_ble_eq_true rfl, Nat.le_of_ble_eq_true rfl⟩ 0 rfl rfl rfl rfl hl.1 rfl (Nat.le_of_ble_eq_true rfl) d_M_check_72 (fun r7 s6 H locs h hw => ?_)
    obtain ⟨hi, h⟩ := h
    refine zz_iald (f2 := sg_a s6 1) cx hw 2 0 rfl rfl hi rfl d_M_check_75 ?_
    refine lv_topi (fun v8 ev8 => ?_)
    replace h := h v8 ev8
    refine lv_istore_n (lv' := [(3, .int v8), (0, .ref (a 0)), (1, .int x1), (2, .int x2)]) hx hb d_M_check_76 rfl hl (by decide) rfl (fun ls hl => ?_)
    refine lv_iload_n hx hb d_M_check_77 rfl (lv_at hl 0 rfl) ?_
    refine lv_if_eq (tgt := 105) hx hb d_M_check_78 (by decide) (fun c9 => ?_) (fun c9 => ?_)
    · replace h := h.1 c9
      exact wk_M_check_105 cx post hkn16 hkn55 x1 x2 s6 _ _ _ hw (lv_sub hl [1, 2, 3] rfl) h
    · replace h := h.2 c9
      refine lv_iload_n hx hb d_M_check_81 rfl (lv_at hl 0 rfl) ?_
      refine lv_aload_n hx hb d_M_check_82 rfl (lv_at hl 1 rfl) ?_
      refine zz_get (v2 := .ref (a 5)) cx hw in_M 0 rfl rfl 9 (by decide) kw_327 rfl rfl d_M_check_83 ?_
      refine lv_bipush (v := 6) hx hb d_M_check_86 (by decide) ?_
      refine lv_aload_n hx hb d_M_check_88 rfl (lv_at hl 1 rfl) ?_
      refine zz_get (v2 := .ref (a 12)) cx hw in_M 0 rfl rfl 18 (by decide) kw_368 rfl rfl d_M_check_89 ?_
      refine lv_iload_n hx hb d_M_check_92 rfl (lv_at hl 2 rfl) ?_
      obtain ⟨hi, h⟩ := h
      refine zz_iald (f2 := sg_a s6 11) cx hw 12 0 rfl rfl hi rfl d_M_check_93 ?_
      refine lv_imul hx hb d_M_check_94 ?_
      refine lv_iload_n hx hb d_M_check_95 rfl (lv_at hl 3 rfl) ?_
      refine lv_iadd hx hb d_M_check_96 ?_
      obtain ⟨hi, h⟩ := h
      refine zz_iald (f2 := sg_a s6 4) cx hw 5 0 rfl rfl hi rfl d_M_check_97 ?_
      refine lv_icmp_eq (tgt := 105) hx hb d_M_check_98 (by decide) (fun c10 => ?_) (fun c10 => ?_)
      · replace h := h.1 c10
        exact wk_M_check_105 cx post hkn16 hkn55 x1 x2 s6 _ _ _ hw (lv_sub hl [1, 2, 3] rfl) h
      · replace h := h.2 c10
        refine lv_iconst (v := 1) hx hb d_M_check_101 (by decide) ?_
        refine lv_iload_n hx hb d_M_check_102 rfl (lv_at hl 2 rfl) ?_
        refine lv_iadd hx hb d_M_check_103 ?_
        exact zz_reti cx hw d_M_check_104 h
set_option maxRecDepth 100000 in
set_option maxHeartbeats 4000000 in
theorem wk_M_check_55_f {p : Program} {l : Launch} {e : Env} {s : State} {m : MethodId} {args : Array Value} {below : List Frame} {meth : Method} {c : Code} {A : Nat → Prop} {D : va_G} {cI cZ cL : ClassId} {a : Nat → Nat} (cx : zz_Cx p s m args meth c "GridFillsModel" b_M_check 4 (some .int) D zz_cl (zz_ty cI cZ cL) A) (post : Int32 → zz_St → Prop) {kn16 : Int32 → zz_St → Prop} (hkn16 : ∀ (x1 : Int32) (u : zz_St) (H : Heap) (locs : List Loc) (ls : Array Slot), zz_Wd D zz_cl A s.heap H locs (gw_M cI cZ cL a u) → lv_has ls 4 [(0, .ref (a 0)), (1, .int x1)] → kn16 x1 u → W p l e (rm_M_check) s m args below meth c H locs 0 0 (MQ below (va_Qi post (zz_B D zz_cl (zz_ty cI cZ cL) (gw_M cI cZ cL a) A) A) args s 0 0 A) (F0 m 16 ls [])) : ∀ n : Nat, ∀ (x1 : Int32) (x2 : Int32) (u : zz_St) (H : Heap) (locs : List Loc) (ls : Array Slot), zz_Wd D zz_cl A s.heap H locs (gw_M cI cZ cL a u) → lv_has ls 4 [(0, .ref (a 0)), (1, .int x1), (2, .int x2)] → wp_M_check_55_f post kn16 n x1 x2 u → W p l e (rm_M_check) s m args below meth c H locs 0 0 (MQ below (va_Qi post (zz_B D zz_cl (zz_ty cI cZ cL) (gw_M cI cZ cL a) A) A) args s 0 0 A) (F0 m 55 ls []) := by
  intro n
  induction n with
  | zero => exact fun _ _ _ _ _ _ _ _ h => False.elim h
  | succ n ih => exact wk_M_check_55 cx post hkn16 ih
set_option maxRecDepth 100000 in
set_option maxHeartbeats 4000000 in
theorem wk_M_check_53 {p : Program} {l : Launch} {e : Env} {s : State} {m : MethodId} {args : Array Value} {below : List Frame} {meth : Method} {c : Code} {A : Nat → Prop} {D : va_G} {cI cZ cL : ClassId} {a : Nat → Nat} (cx : zz_Cx p s m args meth c "GridFillsModel" b_M_check 4 (some .int) D zz_cl (zz_ty cI cZ cL) A) (post : Int32 → zz_St → Prop) {kn16 : Int32 → zz_St → Prop} (hkn16 : ∀ (x1 : Int32) (u : zz_St) (H : Heap) (locs : List Loc) (ls : Array Slot), zz_Wd D zz_cl A s.heap H locs (gw_M cI cZ cL a u) → lv_has ls 4 [(0, .ref (a 0)), (1, .int x1)] → kn16 x1 u → W p l e (rm_M_check) s m args below meth c H locs 0 0 (MQ below (va_Qi post (zz_B D zz_cl (zz_ty cI cZ cL) (gw_M cI cZ cL a) A) A) args s 0 0 A) (F0 m 16 ls [])) : ∀ (x1 : Int32) (u : zz_St) (H : Heap) (locs : List Loc) (ls : Array Slot), zz_Wd D zz_cl A s.heap H locs (gw_M cI cZ cL a u) → lv_has ls 4 [(0, .ref (a 0)), (1, .int x1)] → wp_M_check_53 post kn16 x1 u → W p l e (rm_M_check) s m args below meth c H locs 0 0 (MQ below (va_Qi post (zz_B D zz_cl (zz_ty cI cZ cL) (gw_M cI cZ cL a) A) A) args s 0 0 A) (F0 m 53 ls []) := by
  intro x1 u H locs ls hw hl h
  unfold wp_M_check_53 at h
  obtain ⟨hx, hb, hr, hml, hown, hts, hlk, hK, hA⟩ := id cx
  refine lv_iconst (v := 0) hx hb d_M_check_53 (by decide) ?_
  refine lv_istore_n (lv' := [(2, .int 0), (0, .ref (a 0)), (1, .int x1)]) hx hb d_M_check_54 rfl hl (by decide) rfl (fun ls hl => ?_)
  obtain ⟨n, h⟩ := h
  exact wk_M_check_55_f cx post hkn16 n x1 0 u _ _ _ hw (lv_sub hl [1, 2, 0] rfl) h
set_option maxRecDepth 100000 in
set_option maxHeartbeats 4000000 in
theorem wk_M_check_16 {p : Program} {l : Launch} {e : Env} {s : State} {m : MethodId} {args : Array Value} {below : List Frame} {meth : Method} {c : Code} {A : Nat → Prop} {D : va_G} {cI cZ cL : ClassId} {a : Nat → Nat} (cx : zz_Cx p s m args meth c "GridFillsModel" b_M_check 4 (some .int) D zz_cl (zz_ty cI cZ cL) A) (post : Int32 → zz_St → Prop) {kn16 : Int32 → zz_St → Prop} (hkn16 : ∀ (x1 : Int32) (u : zz_St) (H : Heap) (locs : List Loc) (ls : Array Slot), zz_Wd D zz_cl A s.heap H locs (gw_M cI cZ cL a u) → lv_has ls 4 [(0, .ref (a 0)), (1, .int x1)] → kn16 x1 u → W p l e (rm_M_check) s m args below meth c H locs 0 0 (MQ below (va_Qi post (zz_B D zz_cl (zz_ty cI cZ cL) (gw_M cI cZ cL a) A) A) args s 0 0 A) (F0 m 16 ls [])) : ∀ (x1 : Int32) (u : zz_St) (H : Heap) (locs : List Loc) (ls : Array Slot), zz_Wd D zz_cl A s.heap H locs (gw_M cI cZ cL a u) → lv_has ls 4 [(0, .ref (a 0)), (1, .int x1)] → wp_M_check_16 post kn16 x1 u → W p l e (rm_M_check) s m args below meth c H locs 0 0 (MQ below (va_Qi post (zz_B D zz_cl (zz_ty cI cZ cL) (gw_M cI cZ cL a) A) A) args s 0 0 A) (F0 m 16 ls []) := by
  intro x1 u H locs ls hw hl h
  unfold wp_M_check_16 at h
  obtain ⟨hx, hb, hr, hml, hown, hts, hlk, hK, hA⟩ := id cx
  refine lv_iload_n hx hb d_M_check_16 rfl (lv_at hl 1 rfl) ?_
  refine lv_aload_n hx hb d_M_check_17 rfl (lv_at hl 0 rfl) ?_
  refine zz_get (v2 := .int (sg_i u 5)) cx hw in_M 0 rfl rfl 11 (by decide) kw_304 rfl rfl d_M_check_18 ?_
  refine lv_icmp_ge (tgt := 117) hx hb d_M_check_21 (by decide) (fun c2 => ?_) (fun c2 => ?_)
  · replace h := h.1 c2
    refine lv_iconst (v := 0) hx hb d_M_check_117 (by decide) ?_
    exact zz_reti cx hw d_M_check_118 h
  · replace h := h.2 c2
    refine lv_aload_n hx hb d_M_check_24 rfl (lv_at hl 0 rfl) ?_
    refine zz_get (v2 := .ref (a 10)) cx hw in_M 0 rfl rfl 15 (by decide) kw_313 rfl rfl d_M_check_25 ?_
    refine lv_iload_n hx hb d_M_check_28 rfl (lv_at hl 1 rfl) ?_
    obtain ⟨hi, h⟩ := h
    refine zz_iald (f2 := sg_a u 9) cx hw 10 0 rfl rfl hi rfl d_M_check_29 ?_
    refine lv_iconst (v := (-1)) hx hb d_M_check_30 (by decide) ?_
    refine lv_icmp_eq (tgt := 53) hx hb d_M_check_31 (by decide) (fun c3 => ?_) (fun c3 => ?_)
    · replace h := h.1 c3
      exact wk_M_check_53 cx post hkn16 x1 u _ _ _ hw (lv_sub hl [0, 1] rfl) h
    · replace h := h.2 c3
      refine lv_aload_n hx hb d_M_check_34 rfl (lv_at hl 0 rfl) ?_
      refine zz_get (v2 := .ref (a 10)) cx hw in_M 0 rfl rfl 15 (by decide) kw_313 rfl rfl d_M_check_35 ?_
      refine lv_iload_n hx hb d_M_check_38 rfl (lv_at hl 1 rfl) ?_
      obtain ⟨hi, h⟩ := h
      refine zz_iald (f2 := sg_a u 9) cx hw 10 0 rfl rfl hi rfl d_M_check_39 ?_
      refine lv_aload_n hx hb d_M_check_40 rfl (lv_at hl 0 rfl) ?_
      refine zz_get (v2 := .ref (a 12)) cx hw in_M 0 rfl rfl 18 (by decide) kw_368 rfl rfl d_M_check_41 ?_
      refine lv_iload_n hx hb d_M_check_44 rfl (lv_at hl 1 rfl) ?_
      obtain ⟨hi, h⟩ := h
      refine zz_iald (f2 := sg_a u 11) cx hw 12 0 rfl rfl hi rfl d_M_check_45 ?_
      refine lv_icmp_eq (tgt := 53) hx hb d_M_check_46 (by decide) (fun c4 => ?_) (fun c4 => ?_)
      · replace h := h.1 c4
        exact wk_M_check_53 cx post hkn16 x1 u _ _ _ hw (lv_sub hl [0, 1] rfl) h
      · replace h := h.2 c4
        refine lv_iconst (v := 1) hx hb d_M_check_49 (by decide) ?_
        refine lv_iload_n hx hb d_M_check_50 rfl (lv_at hl 1 rfl) ?_
        refine lv_iadd hx hb d_M_check_51 ?_
        exact zz_reti cx hw d_M_check_52 h
set_option maxRecDepth 100000 in
set_option maxHeartbeats 4000000 in
theorem wk_M_check_16_f {p : Program} {l : Launch} {e : Env} {s : State} {m : MethodId} {args : Array Value} {below : List Frame} {meth : Method} {c : Code} {A : Nat → Prop} {D : va_G} {cI cZ cL : ClassId} {a : Nat → Nat} (cx : zz_Cx p s m args meth c "GridFillsModel" b_M_check 4 (some .int) D zz_cl (zz_ty cI cZ cL) A) (post : Int32 → zz_St → Prop) : ∀ n : Nat, ∀ (x1 : Int32) (u : zz_St) (H : Heap) (locs : List Loc) (ls : Array Slot), zz_Wd D zz_cl A s.heap H locs (gw_M cI cZ cL a u) → lv_has ls 4 [(0, .ref (a 0)), (1, .int x1)] → wp_M_check_16_f post n x1 u → W p l e (rm_M_check) s m args below meth c H locs 0 0 (MQ below (va_Qi post (zz_B D zz_cl (zz_ty cI cZ cL) (gw_M cI cZ cL a) A) A) args s 0 0 A) (F0 m 16 ls []) := by
  intro n
  induction n with
  | zero => exact fun _ _ _ _ _ _ _ h => False.elim h
  | succ n ih => exact wk_M_check_16 cx post ih
set_option maxRecDepth 100000 in
set_option maxHeartbeats 4000000 in
theorem ct_M_check (l : Launch) (D : va_G) (cI cZ cL : ClassId) (a : Nat → Nat) {u : zz_St} {post : Int32 → zz_St → Prop} (h : wp_M_check  u post) : zz_MI l y_M_check (.code y_M_check b_M_check 4 (some .int) :: zz_tbl) (rm_M_check) D zz_cl (zz_ty cI cZ cL) (gw_M cI cZ cL a) [.ref (a 0)] u post := by
  unfold wp_M_check at h
  refine zz_ofI (by decide) (Nat.le_of_ble_eq_true rfl) ?_
  intro p e s m below meth c A cx hw ls hl
  obtain ⟨hx, hb, hr, hml, hown, hts, hlk, hK, hA⟩ := id cx
  refine lv_aload_n hx hb d_M_check_0 rfl (lv_at hl 0 rfl) ?_
  refine lv_iconst (v := 0) hx hb d_M_check_1 (by decide) ?_
  refine zz_put (v := .int 0) (ws' := gw_M cI cZ cL a (ss_i u 0 0)) cx hw in_M ty_M tk_M nm_M 0 rfl rfl 0 (by decide) kw_314 rfl ⟨rfl, rfl⟩ (Nat.le_of_ble_eq_true rfl) (gw_M_i0 _ _ _ _ _ _) d_M_check_2 (fun H locs hw => ?_)
  refine lv_aload_n hx hb d_M_check_5 rfl (lv_at hl 0 rfl) ?_
  refine zz_get (v2 := .int (sg_i u 7)) cx hw in_M 0 rfl rfl 19 (by decide) kw_319 rfl (congrArg Value.int (sy_i _ _ (by decide))) d_M_check_6 ?_
  refine lv_if_ne (tgt := 14) hx hb d_M_check_9 (by decide) (fun c1 => ?_) (fun c1 => ?_)
  · replace h := h.2 c1
    refine lv_iconst (v := 0) hx hb d_M_check_14 (by decide) ?_
    refine lv_istore_n (lv' := [(1, .int 0), (0, .ref (a 0))]) hx hb d_M_check_15 rfl hl (by decide) rfl (fun ls hl => ?_)
    obtain ⟨n, h⟩ := h
    exact wk_M_check_16_f cx post  n 0 (ss_i u 0 0) _ _ _ hw (lv_sub hl [1, 0] rfl) h
  · replace h := h.1 c1
    refine lv_iconst (v := (-1)) hx hb d_M_check_12 (by decide) ?_
    exact zz_reti cx hw d_M_check_13 h
set_option maxRecDepth 100000 in
set_option maxHeartbeats 4000000 in
theorem wk_M_alike_106 {p : Program} {l : Launch} {e : Env} {s : State} {m : MethodId} {args : Array Value} {below : List Frame} {meth : Method} {c : Code} {A : Nat → Prop} {D : va_G} {cI cZ cL : ClassId} {a : Nat → Nat} (cx : zz_Cx p s m args meth c "GridFillsModel" b_M_alike 6 (some .boolean) D zz_cl (zz_ty cI cZ cL) A) (post : Int32 → zz_St → Prop) {kn34 : Int32 → Int32 → zz_St → Prop} {kn44 : Int32 → Int32 → Int32 → zz_St → Prop} (hkn34 : ∀ (x1 : Int32) (x2 : Int32) (u : zz_St) (H : Heap) (locs : List Loc) (ls : Array Slot), zz_Wd D zz_cl A s.heap H locs (gw_M cI cZ cL a u) → lv_has ls 6 [(0, .ref (a 0)), (1, .int x1), (2, .int x2)] → kn34 x1 x2 u → W p l e (rm_M_alike) s m args below meth c H locs 0 0 (MQ below (va_Qi post (zz_B D zz_cl (zz_ty cI cZ cL) (gw_M cI cZ cL a) A) A) args s 0 0 A) (F0 m 34 ls [])) (hkn44 : ∀ (x1 : Int32) (x2 : Int32) (x3 : Int32) (u : zz_St) (H : Heap) (locs : List Loc) (ls : Array Slot), zz_Wd D zz_cl A s.heap H locs (gw_M cI cZ cL a u) → lv_has ls 6 [(0, .ref (a 0)), (1, .int x1), (2, .int x2), (3, .int x3)] → kn44 x1 x2 x3 u → W p l e (rm_M_alike) s m args below meth c H locs 0 0 (MQ below (va_Qi post (zz_B D zz_cl (zz_ty cI cZ cL) (gw_M cI cZ cL a) A) A) args s 0 0 A) (F0 m 44 ls [])) : ∀ (x1 : Int32) (x2 : Int32) (x3 : Int32) (x4 : Int32) (y0 : Int32) (u : zz_St) (H : Heap) (locs : List Loc) (ls : Array Slot), zz_Wd D zz_cl A s.heap H locs (gw_M cI cZ cL a u) → lv_has ls 6 [(0, .ref (a 0)), (1, .int x1), (2, .int x2), (3, .int x3), (4, .int x4)] → wp_M_alike_106 post kn34 kn44 x1 x2 x3 x4 y0 u → W p l e (rm_M_alike) s m args below meth c H locs 0 0 (MQ below (va_Qi post (zz_B D zz_cl (zz_ty cI cZ cL) (gw_M cI cZ cL a) A) A) args s 0 0 A) (F0 m 106 ls [.int y0]) := by
  intro x1 x2 x3 x4 y0 u H locs ls hw hl h
  unfold wp_M_alike_106 at h
  obtain ⟨hx, hb, hr, hml, hown, hts, hlk, hK, hA⟩ := id cx
  refine lv_istore (lv' := [(5, .int y0), (0, .ref (a 0)), (1, .int x1), (2, .int x2), (3, .int x3), (4, .int x4)]) hx hb d_M_alike_106 hl (by decide) rfl (fun ls hl => ?_)
  refine lv_aload_n hx hb d_M_alike_108 rfl (lv_at hl 1 rfl) ?_
  refine zz_get (v2 := .ref (a 1)) cx hw in_M 0 rfl rfl 3 (by decide) kw_298 rfl rfl d_M_alike_109 ?_
  refine lv_aload_n hx hb d_M_alike_112 rfl (lv_at hl 1 rfl) ?_
  refine zz_get (v2 := .int (sg_i u 1)) cx hw in_M 0 rfl rfl 1 (by decide) kw_296 rfl rfl d_M_alike_113 ?_
  refine lv_iload_n hx hb d_M_alike_116 rfl (lv_at hl 3 rfl) ?_
  refine lv_imul hx hb d_M_alike_117 ?_
  refine lv_iload_n hx hb d_M_alike_118 rfl (lv_at hl 4 rfl) ?_
  refine lv_iadd hx hb d_M_alike_119 ?_
  obtain ⟨hi, h⟩ := h
  refine zz_zald (f2 := sg_a u 0) cx hw 1 1 rfl rfl hi rfl d_M_alike_120 ?_
  refine lv_aload_n hx hb d_M_alike_121 rfl (lv_at hl 1 rfl) ?_
  refine zz_get (v2 := .ref (a 1)) cx hw in_M 0 rfl rfl 3 (by decide) kw_298 rfl rfl d_M_alike_122 ?_
  refine lv_aload_n hx hb d_M_alike_125 rfl (lv_at hl 1 rfl) ?_
  refine zz_get (v2 := .int (sg_i u 1)) cx hw in_M 0 rfl rfl 1 (by decide) kw_296 rfl rfl d_M_alike_126 ?_
  refine lv_iload hx hb d_M_alike_129 (lv_at hl 0 rfl) ?_
  refine lv_imul hx hb d_M_alike_131 ?_
  refine lv_iload hx hb d_M_alike_132 (lv_at hl 5 rfl) ?_
  refine lv_iadd hx hb d_M_alike_134 ?_
  obtain ⟨hi, h⟩ := h
  refine zz_zald (f2 := sg_a u 0) cx hw 1 1 rfl rfl hi rfl d_M_alike_135 ?_
  refine lv_icmp_eq (tgt := 141) hx hb d_M_alike_136 (by decide) (fun c11 => ?_) (fun c11 => ?_)
  · replace h := h.1 c11
    refine lv_iinc (v := x3 + 1) (lv' := [(3, .int (x3 + 1)), (5, .int y0), (0, .ref (a 0)), (1, .int x1), (2, .int x2), (4, .int x4)]) hx hb d_M_alike_141 hl (k := 4) rfl rfl (by decide) rfl (fun ls hl => ?_)
    refine lv_goto (tgt := 44) hx hb d_M_alike_144 (by decide) ?_
    exact hkn44 x1 x2 (x3 + 1) u _ _ _ hw (lv_sub hl [2, 3, 4, 0] rfl) h
  · replace h := h.2 c11
    refine lv_iconst (v := 0) hx hb d_M_alike_139 (by decide) ?_
    exact zz_retz cx hw d_M_alike_140 (by decide) h
set_option maxRecDepth 100000 in
set_option maxHeartbeats 4000000 in
theorem wk_M_alike_78 {p : Program} {l : Launch} {e : Env} {s : State} {m : MethodId} {args : Array Value} {below : List Frame} {meth : Method} {c : Code} {A : Nat → Prop} {D : va_G} {cI cZ cL : ClassId} {a : Nat → Nat} (cx : zz_Cx p s m args meth c "GridFillsModel" b_M_alike 6 (some .boolean) D zz_cl (zz_ty cI cZ cL) A) (post : Int32 → zz_St → Prop) {kn34 : Int32 → Int32 → zz_St → Prop} {kn44 : Int32 → Int32 → Int32 → zz_St → Prop} (hkn34 : ∀ (x1 : Int32) (x2 : Int32) (u : zz_St) (H : Heap) (locs : List Loc) (ls : Array Slot), zz_Wd D zz_cl A s.heap H locs (gw_M cI cZ cL a u) → lv_has ls 6 [(0, .ref (a 0)), (1, .int x1), (2, .int x2)] → kn34 x1 x2 u → W p l e (rm_M_alike) s m args below meth c H locs 0 0 (MQ below (va_Qi post (zz_B D zz_cl (zz_ty cI cZ cL) (gw_M cI cZ cL a) A) A) args s 0 0 A) (F0 m 34 ls [])) (hkn44 : ∀ (x1 : Int32) (x2 : Int32) (x3 : Int32) (u : zz_St) (H : Heap) (locs : List Loc) (ls : Array Slot), zz_Wd D zz_cl A s.heap H locs (gw_M cI cZ cL a u) → lv_has ls 6 [(0, .ref (a 0)), (1, .int x1), (2, .int x2), (3, .int x3)] → kn44 x1 x2 x3 u → W p l e (rm_M_alike) s m args below meth c H locs 0 0 (MQ below (va_Qi post (zz_B D zz_cl (zz_ty cI cZ cL) (gw_M cI cZ cL a) A) A) args s 0 0 A) (F0 m 44 ls [])) : ∀ (x1 : Int32) (x2 : Int32) (x3 : Int32) (y0 : Int32) (u : zz_St) (H : Heap) (locs : List Loc) (ls : Array Slot), zz_Wd D zz_cl A s.heap H locs (gw_M cI cZ cL a u) → lv_has ls 6 [(0, .ref (a 0)), (1, .int x1), (2, .int x2), (3, .int x3)] → wp_M_alike_78 post kn34 kn44 x1 x2 x3 y0 u → W p l e (rm_M_alike) s m args below meth c H locs 0 0 (MQ below (va_Qi post (zz_B D zz_cl (zz_ty cI cZ cL) (gw_M cI cZ cL a) A) A) args s 0 0 A) (F0 m 78 ls [.int y0]) := by
  intro x1 x2 x3 y0 u H locs ls hw hl h
  unfold wp_M_alike_78 at h
  obtain ⟨hx, hb, hr, hml, hown, hts, hlk, hK, hA⟩ := id cx
  refine lv_istore (lv' := [(4, .int y0), (0, .ref (a 0)), (1, .int x1), (2, .int x2), (3, .int x3)]) hx hb d_M_alike_78 hl (by decide) rfl (fun ls hl => ?_)
  refine lv_iload_n hx hb d_M_alike_80 rfl (lv_at hl 2 rfl) ?_
  refine lv_iconst (v := 3) hx hb d_M_alike_81 (by decide) ?_
  refine lv_icmp_ne (tgt := 89) hx hb d_M_alike_82 (by decide) (fun c9 => ?_) (fun c9 => ?_)
  · replace h := h.2 c9
    refine lv_iload_n hx hb d_M_alike_89 rfl (lv_at hl 2 rfl) ?_
    refine lv_iconst (v := 1) hx hb d_M_alike_90 (by decide) ?_
    refine lv_icmp_ne (tgt := 98) hx hb d_M_alike_91 (by decide) (fun c10 => ?_) (fun c10 => ?_)
    · replace h := h.2 c10
      refine lv_aload_n hx hb d_M_alike_98 rfl (lv_at hl 1 rfl) ?_
      refine zz_get (v2 := .int (sg_i u 2)) cx hw in_M 0 rfl rfl 2 (by decide) kw_297 rfl rfl d_M_alike_99 ?_
      refine lv_iconst (v := 1) hx hb d_M_alike_102 (by decide) ?_
      refine lv_isub hx hb d_M_alike_103 ?_
      refine lv_iload_n hx hb d_M_alike_104 rfl (lv_at hl 3 rfl) ?_
      refine lv_isub hx hb d_M_alike_105 ?_
      exact wk_M_alike_106 cx post hkn34 hkn44 x1 x2 x3 y0 (((sg_i u 2) - 1) - x2) u _ _ _ hw (lv_sub hl [1, 2, 3, 4, 0] rfl) h
    · replace h := h.1 c10
      refine lv_iload_n hx hb d_M_alike_94 rfl (lv_at hl 3 rfl) ?_
      refine lv_goto (tgt := 106) hx hb d_M_alike_95 (by decide) ?_
      exact wk_M_alike_106 cx post hkn34 hkn44 x1 x2 x3 y0 x2 u _ _ _ hw (lv_sub hl [1, 2, 3, 4, 0] rfl) h
  · replace h := h.1 c9
    refine lv_iload_n hx hb d_M_alike_85 rfl (lv_at hl 4 rfl) ?_
    refine lv_goto (tgt := 106) hx hb d_M_alike_86 (by decide) ?_
    exact wk_M_alike_106 cx post hkn34 hkn44 x1 x2 x3 y0 x3 u _ _ _ hw (lv_sub hl [1, 2, 3, 4, 0] rfl) h
set_option maxRecDepth 100000 in
set_option maxHeartbeats 4000000 in
theorem wk_M_alike_44 {p : Program} {l : Launch} {e : Env} {s : State} {m : MethodId} {args : Array Value} {below : List Frame} {meth : Method} {c : Code} {A : Nat → Prop} {D : va_G} {cI cZ cL : ClassId} {a : Nat → Nat} (cx : zz_Cx p s m args meth c "GridFillsModel" b_M_alike 6 (some .boolean) D zz_cl (zz_ty cI cZ cL) A) (post : Int32 → zz_St → Prop) {kn34 : Int32 → Int32 → zz_St → Prop} {kn44 : Int32 → Int32 → Int32 → zz_St → Prop} (hkn34 : ∀ (x1 : Int32) (x2 : Int32) (u : zz_St) (H : Heap) (locs : List Loc) (ls : Array Slot), zz_Wd D zz_cl A s.heap H locs (gw_M cI cZ cL a u) → lv_has ls 6 [(0, .ref (a 0)), (1, .int x1), (2, .int x2)] → kn34 x1 x2 u → W p l e (rm_M_alike) s m args below meth c H locs 0 0 (MQ below (va_Qi post (zz_B D zz_cl (zz_ty cI cZ cL) (gw_M cI cZ cL a) A) A) args s 0 0 A) (F0 m 34 ls [])) (hkn44 : ∀ (x1 : Int32) (x2 : Int32) (x3 : Int32) (u : zz_St) (H : Heap) (locs : List Loc) (ls : Array Slot), zz_Wd D zz_cl A s.heap H locs (gw_M cI cZ cL a u) → lv_has ls 6 [(0, .ref (a 0)), (1, .int x1), (2, .int x2), (3, .int x3)] → kn44 x1 x2 x3 u → W p l e (rm_M_alike) s m args below meth c H locs 0 0 (MQ below (va_Qi post (zz_B D zz_cl (zz_ty cI cZ cL) (gw_M cI cZ cL a) A) A) args s 0 0 A) (F0 m 44 ls [])) : ∀ (x1 : Int32) (x2 : Int32) (x3 : Int32) (u : zz_St) (H : Heap) (locs : List Loc) (ls : Array Slot), zz_Wd D zz_cl A s.heap H locs (gw_M cI cZ cL a u) → lv_has ls 6 [(0, .ref (a 0)), (1, .int x1), (2, .int x2), (3, .int x3)] → wp_M_alike_44 post kn34 kn44 x1 x2 x3 u → W p l e (rm_M_alike) s m args below meth c H locs 0 0 (MQ below (va_Qi post (zz_B D zz_cl (zz_ty cI cZ cL) (gw_M cI cZ cL a) A) A) args s 0 0 A) (F0 m 44 ls []) := by
  intro x1 x2 x3 u H locs ls hw hl h
  unfold wp_M_alike_44 at h
  obtain ⟨hx, hb, hr, hml, hown, hts, hlk, hK, hA⟩ := id cx
  refine lv_iload_n hx hb d_M_alike_44 rfl (lv_at hl 3 rfl) ?_
  refine lv_aload_n hx hb d_M_alike_45 rfl (lv_at hl 0 rfl) ?_
  refine zz_get (v2 := .int (sg_i u 1)) cx hw in_M 0 rfl rfl 1 (by decide) kw_296 rfl rfl d_M_alike_46 ?_
  refine lv_icmp_ge (tgt := 147) hx hb d_M_alike_49 (by decide) (fun c6 => ?_) (fun c6 => ?_)
  · replace h := h.1 c6
    refine lv_iinc (v := x2 + 1) (lv' := [(2, .int (x2 + 1)), (0, .ref (a 0)), (1, .int x1), (3, .int x3)]) hx hb d_M_alike_147 hl (k := 2) rfl rfl (by decide) rfl (fun ls hl => ?_)
    refine lv_goto (tgt := 34) hx hb d_M_alike_150 (by decide) ?_
    exact hkn34 x1 (x2 + 1) u _ _ _ hw (lv_sub hl [1, 2, 0] rfl) h
  · replace h := h.2 c6
    refine lv_iload_n hx hb d_M_alike_52 rfl (lv_at hl 1 rfl) ?_
    refine lv_iconst (v := 3) hx hb d_M_alike_53 (by decide) ?_
    refine lv_icmp_ne (tgt := 61) hx hb d_M_alike_54 (by decide) (fun c7 => ?_) (fun c7 => ?_)
    · replace h := h.2 c7
      refine lv_iload_n hx hb d_M_alike_61 rfl (lv_at hl 1 rfl) ?_
      refine lv_iconst (v := 2) hx hb d_M_alike_62 (by decide) ?_
      refine lv_icmp_ne (tgt := 70) hx hb d_M_alike_63 (by decide) (fun c8 => ?_) (fun c8 => ?_)
      · replace h := h.2 c8
        refine lv_aload_n hx hb d_M_alike_70 rfl (lv_at hl 0 rfl) ?_
        refine zz_get (v2 := .int (sg_i u 1)) cx hw in_M 0 rfl rfl 1 (by decide) kw_296 rfl rfl d_M_alike_71 ?_
        refine lv_iconst (v := 1) hx hb d_M_alike_74 (by decide) ?_
        refine lv_isub hx hb d_M_alike_75 ?_
        refine lv_iload_n hx hb d_M_alike_76 rfl (lv_at hl 3 rfl) ?_
        refine lv_isub hx hb d_M_alike_77 ?_
        exact wk_M_alike_78 cx post hkn34 hkn44 x1 x2 x3 (((sg_i u 1) - 1) - x3) u _ _ _ hw (lv_sub hl [0, 1, 2, 3] rfl) h
      · replace h := h.1 c8
        refine lv_iload_n hx hb d_M_alike_66 rfl (lv_at hl 3 rfl) ?_
        refine lv_goto (tgt := 78) hx hb d_M_alike_67 (by decide) ?_
        exact wk_M_alike_78 cx post hkn34 hkn44 x1 x2 x3 x3 u _ _ _ hw (lv_sub hl [0, 1, 2, 3] rfl) h
    · replace h := h.1 c7
      refine lv_iload_n hx hb d_M_alike_57 rfl (lv_at hl 2 rfl) ?_
      refine lv_goto (tgt := 78) hx hb d_M_alike_58 (by decide) ?_
      exact wk_M_alike_78 cx post hkn34 hkn44 x1 x2 x3 x2 u _ _ _ hw (lv_sub hl [0, 1, 2, 3] rfl) h
set_option maxRecDepth 100000 in
set_option maxHeartbeats 4000000 in
theorem wk_M_alike_44_f {p : Program} {l : Launch} {e : Env} {s : State} {m : MethodId} {args : Array Value} {below : List Frame} {meth : Method} {c : Code} {A : Nat → Prop} {D : va_G} {cI cZ cL : ClassId} {a : Nat → Nat} (cx : zz_Cx p s m args meth c "GridFillsModel" b_M_alike 6 (some .boolean) D zz_cl (zz_ty cI cZ cL) A) (post : Int32 → zz_St → Prop) {kn34 : Int32 → Int32 → zz_St → Prop} (hkn34 : ∀ (x1 : Int32) (x2 : Int32) (u : zz_St) (H : Heap) (locs : List Loc) (ls : Array Slot), zz_Wd D zz_cl A s.heap H locs (gw_M cI cZ cL a u) → lv_has ls 6 [(0, .ref (a 0)), (1, .int x1), (2, .int x2)] → kn34 x1 x2 u → W p l e (rm_M_alike) s m args below meth c H locs 0 0 (MQ below (va_Qi post (zz_B D zz_cl (zz_ty cI cZ cL) (gw_M cI cZ cL a) A) A) args s 0 0 A) (F0 m 34 ls [])) : ∀ n : Nat, ∀ (x1 : Int32) (x2 : Int32) (x3 : Int32) (u : zz_St) (H : Heap) (locs : List Loc) (ls : Array Slot), zz_Wd D zz_cl A s.heap H locs (gw_M cI cZ cL a u) → lv_has ls 6 [(0, .ref (a 0)), (1, .int x1), (2, .int x2), (3, .int x3)] → wp_M_alike_44_f post kn34 n x1 x2 x3 u → W p l e (rm_M_alike) s m args below meth c H locs 0 0 (MQ below (va_Qi post (zz_B D zz_cl (zz_ty cI cZ cL) (gw_M cI cZ cL a) A) A) args s 0 0 A) (F0 m 44 ls []) := by
  intro n
  induction n with
  | zero => exact fun _ _ _ _ _ _ _ _ _ h => False.elim h
  | succ n ih => exact wk_M_alike_44 cx post hkn34 ih
set_option maxRecDepth 100000 in
set_option maxHeartbeats 4000000 in
theorem wk_M_alike_34 {p : Program} {l : Launch} {e : Env} {s : State} {m : MethodId} {args : Array Value} {below : List Frame} {meth : Method} {c : Code} {A : Nat → Prop} {D : va_G} {cI cZ cL : ClassId} {a : Nat → Nat} (cx : zz_Cx p s m args meth c "GridFillsModel" b_M_alike 6 (some .boolean) D zz_cl (zz_ty cI cZ cL) A) (post : Int32 → zz_St → Prop) {kn34 : Int32 → Int32 → zz_St → Prop} (hkn34 : ∀ (x1 : Int32) (x2 : Int32) (u : zz_St) (H : Heap) (locs : List Loc) (ls : Array Slot), zz_Wd D zz_cl A s.heap H locs (gw_M cI cZ cL a u) → lv_has ls 6 [(0, .ref (a 0)), (1, .int x1), (2, .int x2)] → kn34 x1 x2 u → W p l e (rm_M_alike) s m args below meth c H locs 0 0 (MQ below (va_Qi post (zz_B D zz_cl (zz_ty cI cZ cL) (gw_M cI cZ cL a) A) A) args s 0 0 A) (F0 m 34 ls [])) : ∀ (x1 : Int32) (x2 : Int32) (u : zz_St) (H : Heap) (locs : List Loc) (ls : Array Slot), zz_Wd D zz_cl A s.heap H locs (gw_M cI cZ cL a u) → lv_has ls 6 [(0, .ref (a 0)), (1, .int x1), (2, .int x2)] → wp_M_alike_34 post kn34 x1 x2 u → W p l e (rm_M_alike) s m args below meth c H locs 0 0 (MQ below (va_Qi post (zz_B D zz_cl (zz_ty cI cZ cL) (gw_M cI cZ cL a) A) A) args s 0 0 A) (F0 m 34 ls []) := by
  intro x1 x2 u H locs ls hw hl h
  unfold wp_M_alike_34 at h
  obtain ⟨hx, hb, hr, hml, hown, hts, hlk, hK, hA⟩ := id cx
  refine lv_iload_n hx hb d_M_alike_34 rfl (lv_at hl 2 rfl) ?_
  refine lv_aload_n hx hb d_M_alike_35 rfl (lv_at hl 0 rfl) ?_
  refine zz_get (v2 := .int (sg_i u 2)) cx hw in_M 0 rfl rfl 2 (by decide) kw_297 rfl rfl d_M_alike_36 ?_
  refine lv_icmp_ge (tgt := 153) hx hb d_M_alike_39 (by decide) (fun c5 => ?_) (fun c5 => ?_)
  · replace h := h.1 c5
    refine lv_iconst (v := 1) hx hb d_M_alike_153 (by decide) ?_
    exact zz_retz cx hw d_M_alike_154 (by decide) h
  · replace h := h.2 c5
    refine lv_iconst (v := 0) hx hb d_M_alike_42 (by decide) ?_
    refine lv_istore_n (lv' := [(3, .int 0), (0, .ref (a 0)), (1, .int x1), (2, .int x2)]) hx hb d_M_alike_43 rfl hl (by decide) rfl (fun ls hl => ?_)
    obtain ⟨n, h⟩ := h
    exact wk_M_alike_44_f cx post hkn34 n x1 x2 0 u _ _ _ hw (lv_sub hl [1, 2, 3, 0] rfl) h
set_option maxRecDepth 100000 in
set_option maxHeartbeats 4000000 in
theorem wk_M_alike_34_f {p : Program} {l : Launch} {e : Env} {s : State} {m : MethodId} {args : Array Value} {below : List Frame} {meth : Method} {c : Code} {A : Nat → Prop} {D : va_G} {cI cZ cL : ClassId} {a : Nat → Nat} (cx : zz_Cx p s m args meth c "GridFillsModel" b_M_alike 6 (some .boolean) D zz_cl (zz_ty cI cZ cL) A) (post : Int32 → zz_St → Prop) : ∀ n : Nat, ∀ (x1 : Int32) (x2 : Int32) (u : zz_St) (H : Heap) (locs : List Loc) (ls : Array Slot), zz_Wd D zz_cl A s.heap H locs (gw_M cI cZ cL a u) → lv_has ls 6 [(0, .ref (a 0)), (1, .int x1), (2, .int x2)] → wp_M_alike_34_f post n x1 x2 u → W p l e (rm_M_alike) s m args below meth c H locs 0 0 (MQ below (va_Qi post (zz_B D zz_cl (zz_ty cI cZ cL) (gw_M cI cZ cL a) A) A) args s 0 0 A) (F0 m 34 ls []) := by
  intro n
  induction n with
  | zero => exact fun _ _ _ _ _ _ _ _ h => False.elim h
  | succ n ih => exact wk_M_alike_34 cx post ih
set_option maxRecDepth 100000 in
set_option maxHeartbeats 4000000 in
theorem wk_M_alike_32 {p : Program} {l : Launch} {e : Env} {s : State} {m : MethodId} {args : Array Value} {below : List Frame} {meth : Method} {c : Code} {A : Nat → Prop} {D : va_G} {cI cZ cL : ClassId} {a : Nat → Nat} (cx : zz_Cx p s m args meth c "GridFillsModel" b_M_alike 6 (some .boolean) D zz_cl (zz_ty cI cZ cL) A) (post : Int32 → zz_St → Prop) : ∀ (x1 : Int32) (u : zz_St) (H : Heap) (locs : List Loc) (ls : Array Slot), zz_Wd D zz_cl A s.heap H locs (gw_M cI cZ cL a u) → lv_has ls 6 [(0, .ref (a 0)), (1, .int x1)] → wp_M_alike_32 post x1 u → W p l e (rm_M_alike) s m args below meth c H locs 0 0 (MQ below (va_Qi post (zz_B D zz_cl (zz_ty cI cZ cL) (gw_M cI cZ cL a) A) A) args s 0 0 A) (F0 m 32 ls []) := by
  intro x1 u H locs ls hw hl h
  unfold wp_M_alike_32 at h
  obtain ⟨hx, hb, hr, hml, hown, hts, hlk, hK, hA⟩ := id cx
  refine lv_iconst (v := 0) hx hb d_M_alike_32 (by decide) ?_
  refine lv_istore_n (lv' := [(2, .int 0), (0, .ref (a 0)), (1, .int x1)]) hx hb d_M_alike_33 rfl hl (by decide) rfl (fun ls hl => ?_)
  obtain ⟨n, h⟩ := h
  exact wk_M_alike_34_f cx post  n x1 0 u _ _ _ hw (lv_sub hl [1, 2, 0] rfl) h
set_option maxRecDepth 100000 in
set_option maxHeartbeats 4000000 in
theorem ct_M_alike (l : Launch) (D : va_G) (cI cZ cL : ClassId) (a : Nat → Nat) {a0 : Int32} {u : zz_St} {post : Int32 → zz_St → Prop} (h : wp_M_alike  a0 u post) : zz_MI l y_M_alike (.code y_M_alike b_M_alike 6 (some .boolean) :: zz_tbl) (rm_M_alike) D zz_cl (zz_ty cI cZ cL) (gw_M cI cZ cL a) [.ref (a 0), .int a0] u post := by
  unfold wp_M_alike at h
  refine zz_ofI (by decide) (Nat.le_of_ble_eq_true rfl) ?_
  intro p e s m below meth c A cx hw ls hl
  obtain ⟨hx, hb, hr, hml, hown, hts, hlk, hK, hA⟩ := id cx
  refine lv_aload_n hx hb d_M_alike_0 rfl (lv_at hl 0 rfl) ?_
  refine lv_iconst (v := 0) hx hb d_M_alike_1 (by decide) ?_
  refine zz_put (v := .int 0) (ws' := gw_M cI cZ cL a (ss_i u 0 0)) cx hw in_M ty_M tk_M nm_M 0 rfl rfl 0 (by decide) kw_314 rfl ⟨rfl, rfl⟩ (Nat.le_of_ble_eq_true rfl) (gw_M_i0 _ _ _ _ _ _) d_M_alike_2 (fun H locs hw => ?_)
  refine lv_iload_n hx hb d_M_alike_5 rfl (lv_at hl 1 rfl) ?_
  refine lv_if_lt (tgt := 30) hx hb d_M_alike_6 (by decide) (fun c1 => ?_) (fun c1 => ?_)
  · replace h := h.1 c1
    refine lv_iconst (v := 0) hx hb d_M_alike_30 (by decide) ?_
    exact zz_retz cx hw d_M_alike_31 (by decide) h
  · replace h := h.2 c1
    refine lv_iload_n hx hb d_M_alike_9 rfl (lv_at hl 1 rfl) ?_
    refine lv_iconst (v := 3) hx hb d_M_alike_10 (by decide) ?_
    refine lv_icmp_gt (tgt := 30) hx hb d_M_alike_11 (by decide) (fun c2 => ?_) (fun c2 => ?_)
    · replace h := h.1 c2
      refine lv_iconst (v := 0) hx hb d_M_alike_30 (by decide) ?_
      exact zz_retz cx hw d_M_alike_31 (by decide) h
    · replace h := h.2 c2
      refine lv_iload_n hx hb d_M_alike_14 rfl (lv_at hl 1 rfl) ?_
      refine lv_iconst (v := 3) hx hb d_M_alike_15 (by decide) ?_
      refine lv_icmp_ne (tgt := 32) hx hb d_M_alike_16 (by decide) (fun c3 => ?_) (fun c3 => ?_)
      · replace h := h.2 c3
        exact wk_M_alike_32 cx post  a0 (ss_i u 0 0) _ _ _ hw (lv_sub hl [0, 1] rfl) h
      · replace h := h.1 c3
        refine lv_aload_n hx hb d_M_alike_19 rfl (lv_at hl 0 rfl) ?_
        refine zz_get (v2 := .int (sg_i u 1)) cx hw in_M 0 rfl rfl 1 (by decide) kw_296 rfl (congrArg Value.int (sy_i _ _ (by decide))) d_M_alike_20 ?_
        refine lv_aload_n hx hb d_M_alike_23 rfl (lv_at hl 0 rfl) ?_
        refine zz_get (v2 := .int (sg_i u 2)) cx hw in_M 0 rfl rfl 2 (by decide) kw_297 rfl (congrArg Value.int (sy_i _ _ (by decide))) d_M_alike_24 ?_
        refine lv_icmp_eq (tgt := 32) hx hb d_M_alike_27 (by decide) (fun c4 => ?_) (fun c4 => ?_)
        · replace h := h.1 c4
          exact wk_M_alike_32 cx post  a0 (ss_i u 0 0) _ _ _ hw (lv_sub hl [0, 1] rfl) h
        · replace h := h.2 c4
          refine lv_iconst (v := 0) hx hb d_M_alike_30 (by decide) ?_
          exact zz_retz cx hw d_M_alike_31 (by decide) h
set_option maxRecDepth 100000 in
set_option maxHeartbeats 4000000 in
theorem ct_M_isSeen (l : Launch) (D : va_G) (cI cZ cL : ClassId) (a : Nat → Nat) {a0 : Int32} {a1 : Int32} {u : zz_St} {post : Int32 → zz_St → Prop} (h : wp_M_isSeen  a0 a1 u post) : zz_MI l y_M_isSeen (.code y_M_isSeen b_M_isSeen 3 (some .boolean) :: zz_tbl) (rm_M_isSeen) D zz_cl (zz_ty cI cZ cL) (gw_M cI cZ cL a) [.ref (a 0), .int a0, .int a1] u post := by
  unfold wp_M_isSeen at h
  refine zz_ofI (by decide) (Nat.le_of_ble_eq_true rfl) ?_
  intro p e s m below meth c A cx hw ls hl
  obtain ⟨hx, hb, hr, hml, hown, hts, hlk, hK, hA⟩ := id cx
  refine lv_aload_n hx hb d_M_isSeen_0 rfl (lv_at hl 0 rfl) ?_
  refine lv_iload_n hx hb d_M_isSeen_1 rfl (lv_at hl 1 rfl) ?_
  refine lv_iload_n hx hb d_M_isSeen_2 rfl (lv_at hl 2 rfl) ?_
  refine zz_callVi (As := [.int a0, .int a1]) (rest := []) cx hw (ct_M_isCell l D cI cZ cL a h) (zz_gV kw_299 kw_302 kw_303 kw_301 kw_300) hd_M_isCell ⟨rfl, rfl⟩ ⟨Nat.le_of_ble_eq_true rfl, Nat.le_of_ble_eq_true rfl⟩ 0 rfl rfl rfl rfl hl.1 rfl (Nat.le_of_ble_eq_true rfl) d_M_isSeen_3 (fun r2 s1 H locs h hw => ?_)
  refine lv_if_eq (tgt := 29) hx hb d_M_isSeen_6 (by decide) (fun c3 => ?_) (fun c3 => ?_)
  · replace h := h.1 c3
    refine lv_iconst (v := 0) hx hb d_M_isSeen_29 (by decide) ?_
    exact zz_retz cx hw d_M_isSeen_30 (by decide) h
  · replace h := h.2 c3
    refine lv_aload_n hx hb d_M_isSeen_9 rfl (lv_at hl 0 rfl) ?_
    refine zz_get (v2 := .ref (a 18)) cx hw in_M 0 rfl rfl 27 (by decide) kw_391 rfl rfl d_M_isSeen_10 ?_
    refine lv_aload_n hx hb d_M_isSeen_13 rfl (lv_at hl 0 rfl) ?_
    refine zz_get (v2 := .int (sg_i s1 1)) cx hw in_M 0 rfl rfl 1 (by decide) kw_296 rfl rfl d_M_isSeen_14 ?_
    refine lv_iload_n hx hb d_M_isSeen_17 rfl (lv_at hl 2 rfl) ?_
    refine lv_imul hx hb d_M_isSeen_18 ?_
    refine lv_iload_n hx hb d_M_isSeen_19 rfl (lv_at hl 1 rfl) ?_
    refine lv_iadd hx hb d_M_isSeen_20 ?_
    obtain ⟨hi, h⟩ := h
    refine zz_zald (f2 := sg_a s1 17) cx hw 18 1 rfl rfl hi rfl d_M_isSeen_21 ?_
    refine lv_if_eq (tgt := 29) hx hb d_M_isSeen_22 (by decide) (fun c4 => ?_) (fun c4 => ?_)
    · replace h := h.1 c4
      refine lv_iconst (v := 0) hx hb d_M_isSeen_29 (by decide) ?_
      exact zz_retz cx hw d_M_isSeen_30 (by decide) h
    · replace h := h.2 c4
      refine lv_iconst (v := 1) hx hb d_M_isSeen_25 (by decide) ?_
      refine lv_goto (tgt := 30) hx hb d_M_isSeen_26 (by decide) ?_
      exact zz_retz cx hw d_M_isSeen_30 (by decide) h
set_option maxRecDepth 100000 in
set_option maxHeartbeats 4000000 in
theorem wk_M_parts_223 {p : Program} {l : Launch} {e : Env} {s : State} {m : MethodId} {args : Array Value} {below : List Frame} {meth : Method} {c : Code} {A : Nat → Prop} {D : va_G} {cI cZ cL : ClassId} {a : Nat → Nat} (cx : zz_Cx p s m args meth c "GridFillsModel" b_M_parts 8 (some .int) D zz_cl (zz_ty cI cZ cL) A) (post : Int32 → zz_St → Prop) {kn30 : Int32 → Int32 → zz_St → Prop} {kn76 : Int32 → Int32 → Int32 → zz_St → Prop} {kn85 : Int32 → Int32 → Int32 → Int32 → zz_St → Prop} (hkn30 : ∀ (x1 : Int32) (x2 : Int32) (u : zz_St) (H : Heap) (locs : List Loc) (ls : Array Slot), zz_Wd D zz_cl A s.heap H locs (gw_M cI cZ cL a u) → lv_has ls 8 [(0, .ref (a 0)), (1, .int x1), (2, .int x2)] → kn30 x1 x2 u → W p l e (rm_M_parts) s m args below meth c H locs 0 0 (MQ below (va_Qi post (zz_B D zz_cl (zz_ty cI cZ cL) (gw_M cI cZ cL a) A) A) args s 0 0 A) (F0 m 30 ls [])) (hkn76 : ∀ (x1 : Int32) (x2 : Int32) (x3 : Int32) (u : zz_St) (H : Heap) (locs : List Loc) (ls : Array Slot), zz_Wd D zz_cl A s.heap H locs (gw_M cI cZ cL a u) → lv_has ls 8 [(0, .ref (a 0)), (1, .int x1), (2, .int x2), (3, .int x3)] → kn76 x1 x2 x3 u → W p l e (rm_M_parts) s m args below meth c H locs 0 0 (MQ below (va_Qi post (zz_B D zz_cl (zz_ty cI cZ cL) (gw_M cI cZ cL a) A) A) args s 0 0 A) (F0 m 76 ls [])) (hkn85 : ∀ (x1 : Int32) (x2 : Int32) (x3 : Int32) (x4 : Int32) (u : zz_St) (H : Heap) (locs : List Loc) (ls : Array Slot), zz_Wd D zz_cl A s.heap H locs (gw_M cI cZ cL a u) → lv_has ls 8 [(0, .ref (a 0)), (1, .int x1), (2, .int x2), (3, .int x3), (4, .int x4)] → kn85 x1 x2 x3 x4 u → W p l e (rm_M_parts) s m args below meth c H locs 0 0 (MQ below (va_Qi post (zz_B D zz_cl (zz_ty cI cZ cL) (gw_M cI cZ cL a) A) A) args s 0 0 A) (F0 m 85 ls [])) : ∀ (x1 : Int32) (x2 : Int32) (x3 : Int32) (x4 : Int32) (u : zz_St) (H : Heap) (locs : List Loc) (ls : Array Slot), zz_Wd D zz_cl A s.heap H locs (gw_M cI cZ cL a u) → lv_has ls 8 [(0, .ref (a 0)), (1, .int x1), (2, .int x2), (3, .int x3), (4, .int x4)] → wp_M_parts_223 post kn30 kn76 kn85 x1 x2 x3 x4 u → W p l e (rm_M_parts) s m args below meth c H locs 0 0 (MQ below (va_Qi post (zz_B D zz_cl (zz_ty cI cZ cL) (gw_M cI cZ cL a) A) A) args s 0 0 A) (F0 m 223 ls []) := by
  intro x1 x2 x3 x4 u H locs ls hw hl h
  unfold wp_M_parts_223 at h
  obtain ⟨hx, hb, hr, hml, hown, hts, hlk, hK, hA⟩ := id cx
  refine lv_iinc (v := x4 + 1) (lv' := [(4, .int (x4 + 1)), (0, .ref (a 0)), (1, .int x1), (2, .int x2), (3, .int x3)]) hx hb d_M_parts_223 hl (k := 4) rfl rfl (by decide) rfl (fun ls hl => ?_)
  refine lv_goto (tgt := 85) hx hb d_M_parts_226 (by decide) ?_
  exact hkn85 x1 x2 x3 (x4 + 1) u _ _ _ hw (lv_sub hl [1, 2, 3, 4, 0] rfl) h
set_option maxRecDepth 100000 in
set_option maxHeartbeats 4000000 in
theorem wk_M_parts_222 {p : Program} {l : Launch} {e : Env} {s : State} {m : MethodId} {args : Array Value} {below : List Frame} {meth : Method} {c : Code} {A : Nat → Prop} {D : va_G} {cI cZ cL : ClassId} {a : Nat → Nat} (cx : zz_Cx p s m args meth c "GridFillsModel" b_M_parts 8 (some .int) D zz_cl (zz_ty cI cZ cL) A) (post : Int32 → zz_St → Prop) {kn30 : Int32 → Int32 → zz_St → Prop} {kn76 : Int32 → Int32 → Int32 → zz_St → Prop} {kn85 : Int32 → Int32 → Int32 → Int32 → zz_St → Prop} (hkn30 : ∀ (x1 : Int32) (x2 : Int32) (u : zz_St) (H : Heap) (locs : List Loc) (ls : Array Slot), zz_Wd D zz_cl A s.heap H locs (gw_M cI cZ cL a u) → lv_has ls 8 [(0, .ref (a 0)), (1, .int x1), (2, .int x2)] → kn30 x1 x2 u → W p l e (rm_M_parts) s m args below meth c H locs 0 0 (MQ below (va_Qi post (zz_B D zz_cl (zz_ty cI cZ cL) (gw_M cI cZ cL a) A) A) args s 0 0 A) (F0 m 30 ls [])) (hkn76 : ∀ (x1 : Int32) (x2 : Int32) (x3 : Int32) (u : zz_St) (H : Heap) (locs : List Loc) (ls : Array Slot), zz_Wd D zz_cl A s.heap H locs (gw_M cI cZ cL a u) → lv_has ls 8 [(0, .ref (a 0)), (1, .int x1), (2, .int x2), (3, .int x3)] → kn76 x1 x2 x3 u → W p l e (rm_M_parts) s m args below meth c H locs 0 0 (MQ below (va_Qi post (zz_B D zz_cl (zz_ty cI cZ cL) (gw_M cI cZ cL a) A) A) args s 0 0 A) (F0 m 76 ls [])) (hkn85 : ∀ (x1 : Int32) (x2 : Int32) (x3 : Int32) (x4 : Int32) (u : zz_St) (H : Heap) (locs : List Loc) (ls : Array Slot), zz_Wd D zz_cl A s.heap H locs (gw_M cI cZ cL a u) → lv_has ls 8 [(0, .ref (a 0)), (1, .int x1), (2, .int x2), (3, .int x3), (4, .int x4)] → kn85 x1 x2 x3 x4 u → W p l e (rm_M_parts) s m args below meth c H locs 0 0 (MQ below (va_Qi post (zz_B D zz_cl (zz_ty cI cZ cL) (gw_M cI cZ cL a) A) A) args s 0 0 A) (F0 m 85 ls [])) : ∀ (x1 : Int32) (x2 : Int32) (x4 : Int32) (y0 : Int32) (u : zz_St) (H : Heap) (locs : List Loc) (ls : Array Slot), zz_Wd D zz_cl A s.heap H locs (gw_M cI cZ cL a u) → lv_has ls 8 [(0, .ref (a 0)), (1, .int x1), (2, .int x2), (4, .int x4)] → wp_M_parts_222 post kn30 kn76 kn85 x1 x2 x4 y0 u → W p l e (rm_M_parts) s m args below meth c H locs 0 0 (MQ below (va_Qi post (zz_B D zz_cl (zz_ty cI cZ cL) (gw_M cI cZ cL a) A) A) args s 0 0 A) (F0 m 222 ls [.int y0]) := by
  intro x1 x2 x4 y0 u H locs ls hw hl h
  unfold wp_M_parts_222 at h
  obtain ⟨hx, hb, hr, hml, hown, hts, hlk, hK, hA⟩ := id cx
  refine lv_istore_n (lv' := [(3, .int y0), (0, .ref (a 0)), (1, .int x1), (2, .int x2), (4, .int x4)]) hx hb d_M_parts_222 rfl hl (by decide) rfl (fun ls hl => ?_)
  exact wk_M_parts_223 cx post hkn30 hkn76 hkn85 x1 x2 y0 x4 u _ _ _ hw (lv_sub hl [1, 2, 3, 0, 4] rfl) h
set_option maxRecDepth 100000 in
set_option maxHeartbeats 4000000 in
theorem wk_M_parts_217 {p : Program} {l : Launch} {e : Env} {s : State} {m : MethodId} {args : Array Value} {below : List Frame} {meth : Method} {c : Code} {A : Nat → Prop} {D : va_G} {cI cZ cL : ClassId} {a : Nat → Nat} (cx : zz_Cx p s m args meth c "GridFillsModel" b_M_parts 8 (some .int) D zz_cl (zz_ty cI cZ cL) A) (post : Int32 → zz_St → Prop) {kn30 : Int32 → Int32 → zz_St → Prop} {kn76 : Int32 → Int32 → Int32 → zz_St → Prop} {kn85 : Int32 → Int32 → Int32 → Int32 → zz_St → Prop} (hkn30 : ∀ (x1 : Int32) (x2 : Int32) (u : zz_St) (H : Heap) (locs : List Loc) (ls : Array Slot), zz_Wd D zz_cl A s.heap H locs (gw_M cI cZ cL a u) → lv_has ls 8 [(0, .ref (a 0)), (1, .int x1), (2, .int x2)] → kn30 x1 x2 u → W p l e (rm_M_parts) s m args below meth c H locs 0 0 (MQ below (va_Qi post (zz_B D zz_cl (zz_ty cI cZ cL) (gw_M cI cZ cL a) A) A) args s 0 0 A) (F0 m 30 ls [])) (hkn76 : ∀ (x1 : Int32) (x2 : Int32) (x3 : Int32) (u : zz_St) (H : Heap) (locs : List Loc) (ls : Array Slot), zz_Wd D zz_cl A s.heap H locs (gw_M cI cZ cL a u) → lv_has ls 8 [(0, .ref (a 0)), (1, .int x1), (2, .int x2), (3, .int x3)] → kn76 x1 x2 x3 u → W p l e (rm_M_parts) s m args below meth c H locs 0 0 (MQ below (va_Qi post (zz_B D zz_cl (zz_ty cI cZ cL) (gw_M cI cZ cL a) A) A) args s 0 0 A) (F0 m 76 ls [])) (hkn85 : ∀ (x1 : Int32) (x2 : Int32) (x3 : Int32) (x4 : Int32) (u : zz_St) (H : Heap) (locs : List Loc) (ls : Array Slot), zz_Wd D zz_cl A s.heap H locs (gw_M cI cZ cL a u) → lv_has ls 8 [(0, .ref (a 0)), (1, .int x1), (2, .int x2), (3, .int x3), (4, .int x4)] → kn85 x1 x2 x3 x4 u → W p l e (rm_M_parts) s m args below meth c H locs 0 0 (MQ below (va_Qi post (zz_B D zz_cl (zz_ty cI cZ cL) (gw_M cI cZ cL a) A) A) args s 0 0 A) (F0 m 85 ls [])) : ∀ (x1 : Int32) (x2 : Int32) (x4 : Int32) (u : zz_St) (H : Heap) (locs : List Loc) (ls : Array Slot), zz_Wd D zz_cl A s.heap H locs (gw_M cI cZ cL a u) → lv_has ls 8 [(0, .ref (a 0)), (1, .int x1), (2, .int x2), (4, .int x4)] → wp_M_parts_217 post kn30 kn76 kn85 x1 x2 x4 u → W p l e (rm_M_parts) s m args below meth c H locs 0 0 (MQ below (va_Qi post (zz_B D zz_cl (zz_ty cI cZ cL) (gw_M cI cZ cL a) A) A) args s 0 0 A) (F0 m 217 ls []) := by
  intro x1 x2 x4 u H locs ls hw hl h
  unfold wp_M_parts_217 at h
  obtain ⟨hx, hb, hr, hml, hown, hts, hlk, hK, hA⟩ := id cx
  refine lv_iconst (v := 1) hx hb d_M_parts_217 (by decide) ?_
  refine lv_goto (tgt := 222) hx hb d_M_parts_218 (by decide) ?_
  exact wk_M_parts_222 cx post hkn30 hkn76 hkn85 x1 x2 x4 1 u _ _ _ hw (lv_sub hl [0, 1, 2, 3] rfl) h
set_option maxRecDepth 100000 in
set_option maxHeartbeats 4000000 in
theorem wk_M_parts_197 {p : Program} {l : Launch} {e : Env} {s : State} {m : MethodId} {args : Array Value} {below : List Frame} {meth : Method} {c : Code} {A : Nat → Prop} {D : va_G} {cI cZ cL : ClassId} {a : Nat → Nat} (cx : zz_Cx p s m args meth c "GridFillsModel" b_M_parts 8 (some .int) D zz_cl (zz_ty cI cZ cL) A) (post : Int32 → zz_St → Prop) {kn30 : Int32 → Int32 → zz_St → Prop} {kn76 : Int32 → Int32 → Int32 → zz_St → Prop} {kn85 : Int32 → Int32 → Int32 → Int32 → zz_St → Prop} (hkn30 : ∀ (x1 : Int32) (x2 : Int32) (u : zz_St) (H : Heap) (locs : List Loc) (ls : Array Slot), zz_Wd D zz_cl A s.heap H locs (gw_M cI cZ cL a u) → lv_has ls 8 [(0, .ref (a 0)), (1, .int x1), (2, .int x2)] → kn30 x1 x2 u → W p l e (rm_M_parts) s m args below meth c H locs 0 0 (MQ below (va_Qi post (zz_B D zz_cl (zz_ty cI cZ cL) (gw_M cI cZ cL a) A) A) args s 0 0 A) (F0 m 30 ls [])) (hkn76 : ∀ (x1 : Int32) (x2 : Int32) (x3 : Int32) (u : zz_St) (H : Heap) (locs : List Loc) (ls : Array Slot), zz_Wd D zz_cl A s.heap H locs (gw_M cI cZ cL a u) → lv_has ls 8 [(0, .ref (a 0)), (1, .int x1), (2, .int x2), (3, .int x3)] → kn76 x1 x2 x3 u → W p l e (rm_M_parts) s m args below meth c H locs 0 0 (MQ below (va_Qi post (zz_B D zz_cl (zz_ty cI cZ cL) (gw_M cI cZ cL a) A) A) args s 0 0 A) (F0 m 76 ls [])) (hkn85 : ∀ (x1 : Int32) (x2 : Int32) (x3 : Int32) (x4 : Int32) (u : zz_St) (H : Heap) (locs : List Loc) (ls : Array Slot), zz_Wd D zz_cl A s.heap H locs (gw_M cI cZ cL a u) → lv_has ls 8 [(0, .ref (a 0)), (1, .int x1), (2, .int x2), (3, .int x3), (4, .int x4)] → kn85 x1 x2 x3 x4 u → W p l e (rm_M_parts) s m args below meth c H locs 0 0 (MQ below (va_Qi post (zz_B D zz_cl (zz_ty cI cZ cL) (gw_M cI cZ cL a) A) A) args s 0 0 A) (F0 m 85 ls [])) : ∀ (x1 : Int32) (x2 : Int32) (x3 : Int32) (x4 : Int32) (y0 : Int32) (u : zz_St) (H : Heap) (locs : List Loc) (ls : Array Slot), zz_Wd D zz_cl A s.heap H locs (gw_M cI cZ cL a u) → lv_has ls 8 [(0, .ref (a 0)), (1, .int x1), (2, .int x2), (3, .int x3), (4, .int x4)] → wp_M_parts_197 post kn30 kn76 kn85 x1 x2 x3 x4 y0 u → W p l e (rm_M_parts) s m args below meth c H locs 0 0 (MQ below (va_Qi post (zz_B D zz_cl (zz_ty cI cZ cL) (gw_M cI cZ cL a) A) A) args s 0 0 A) (F0 m 197 ls [.int y0]) := by
  intro x1 x2 x3 x4 y0 u H locs ls hw hl h
  unfold wp_M_parts_197 at h
  obtain ⟨hx, hb, hr, hml, hown, hts, hlk, hK, hA⟩ := id cx
  refine lv_istore (lv' := [(7, .int y0), (0, .ref (a 0)), (1, .int x1), (2, .int x2), (3, .int x3), (4, .int x4)]) hx hb d_M_parts_197 hl (by decide) rfl (fun ls hl => ?_)
  refine lv_aload_n hx hb d_M_parts_199 rfl (lv_at hl 1 rfl) ?_
  refine zz_get (v2 := .ref (a 18)) cx hw in_M 0 rfl rfl 27 (by decide) kw_391 rfl rfl d_M_parts_200 ?_
  refine lv_iload hx hb d_M_parts_203 (lv_at hl 5 rfl) ?_
  refine lv_iload hx hb d_M_parts_205 (lv_at hl 0 rfl) ?_
  obtain ⟨hi, h⟩ := h
  obtain ⟨hz, h⟩ := h
  refine zz_zast (ws' := gw_M cI cZ cL a (ss_a u 17 (upd (sg_a u 17) x4.toNatClampNeg y0))) cx hw 18 1 rfl rfl hi hz rfl (gw_M_a17 _ _ _ _ _ _) d_M_parts_207 (fun H locs hw => ?_)
  refine lv_iload_n hx hb d_M_parts_208 rfl (lv_at hl 4 rfl) ?_
  refine lv_if_ne (tgt := 217) hx hb d_M_parts_209 (by decide) (fun c23 => ?_) (fun c23 => ?_)
  · replace h := h.2 c23
    exact wk_M_parts_217 cx post hkn30 hkn76 hkn85 x1 x2 x4 (ss_a u 17 (upd (sg_a u 17) x4.toNatClampNeg y0)) _ _ _ hw (lv_sub hl [1, 2, 3, 5] rfl) h
  · replace h := h.1 c23
    refine lv_iload hx hb d_M_parts_212 (lv_at hl 0 rfl) ?_
    refine lv_if_eq (tgt := 221) hx hb d_M_parts_214 (by decide) (fun c24 => ?_) (fun c24 => ?_)
    · replace h := h.1 c24
      refine lv_iconst (v := 0) hx hb d_M_parts_221 (by decide) ?_
      exact wk_M_parts_222 cx post hkn30 hkn76 hkn85 x1 x2 x4 0 (ss_a u 17 (upd (sg_a u 17) x4.toNatClampNeg y0)) _ _ _ hw (lv_sub hl [1, 2, 3, 5] rfl) h
    · replace h := h.2 c24
      exact wk_M_parts_217 cx post hkn30 hkn76 hkn85 x1 x2 x4 (ss_a u 17 (upd (sg_a u 17) x4.toNatClampNeg y0)) _ _ _ hw (lv_sub hl [1, 2, 3, 5] rfl) h
set_option maxRecDepth 100000 in
set_option maxHeartbeats 4000000 in
theorem wk_M_parts_192 {p : Program} {l : Launch} {e : Env} {s : State} {m : MethodId} {args : Array Value} {below : List Frame} {meth : Method} {c : Code} {A : Nat → Prop} {D : va_G} {cI cZ cL : ClassId} {a : Nat → Nat} (cx : zz_Cx p s m args meth c "GridFillsModel" b_M_parts 8 (some .int) D zz_cl (zz_ty cI cZ cL) A) (post : Int32 → zz_St → Prop) {kn30 : Int32 → Int32 → zz_St → Prop} {kn76 : Int32 → Int32 → Int32 → zz_St → Prop} {kn85 : Int32 → Int32 → Int32 → Int32 → zz_St → Prop} (hkn30 : ∀ (x1 : Int32) (x2 : Int32) (u : zz_St) (H : Heap) (locs : List Loc) (ls : Array Slot), zz_Wd D zz_cl A s.heap H locs (gw_M cI cZ cL a u) → lv_has ls 8 [(0, .ref (a 0)), (1, .int x1), (2, .int x2)] → kn30 x1 x2 u → W p l e (rm_M_parts) s m args below meth c H locs 0 0 (MQ below (va_Qi post (zz_B D zz_cl (zz_ty cI cZ cL) (gw_M cI cZ cL a) A) A) args s 0 0 A) (F0 m 30 ls [])) (hkn76 : ∀ (x1 : Int32) (x2 : Int32) (x3 : Int32) (u : zz_St) (H : Heap) (locs : List Loc) (ls : Array Slot), zz_Wd D zz_cl A s.heap H locs (gw_M cI cZ cL a u) → lv_has ls 8 [(0, .ref (a 0)), (1, .int x1), (2, .int x2), (3, .int x3)] → kn76 x1 x2 x3 u → W p l e (rm_M_parts) s m args below meth c H locs 0 0 (MQ below (va_Qi post (zz_B D zz_cl (zz_ty cI cZ cL) (gw_M cI cZ cL a) A) A) args s 0 0 A) (F0 m 76 ls [])) (hkn85 : ∀ (x1 : Int32) (x2 : Int32) (x3 : Int32) (x4 : Int32) (u : zz_St) (H : Heap) (locs : List Loc) (ls : Array Slot), zz_Wd D zz_cl A s.heap H locs (gw_M cI cZ cL a u) → lv_has ls 8 [(0, .ref (a 0)), (1, .int x1), (2, .int x2), (3, .int x3), (4, .int x4)] → kn85 x1 x2 x3 x4 u → W p l e (rm_M_parts) s m args below meth c H locs 0 0 (MQ below (va_Qi post (zz_B D zz_cl (zz_ty cI cZ cL) (gw_M cI cZ cL a) A) A) args s 0 0 A) (F0 m 85 ls [])) : ∀ (x1 : Int32) (x2 : Int32) (x3 : Int32) (x4 : Int32) (u : zz_St) (H : Heap) (locs : List Loc) (ls : Array Slot), zz_Wd D zz_cl A s.heap H locs (gw_M cI cZ cL a u) → lv_has ls 8 [(0, .ref (a 0)), (1, .int x1), (2, .int x2), (3, .int x3), (4, .int x4)] → wp_M_parts_192 post kn30 kn76 kn85 x1 x2 x3 x4 u → W p l e (rm_M_parts) s m args below meth c H locs 0 0 (MQ below (va_Qi post (zz_B D zz_cl (zz_ty cI cZ cL) (gw_M cI cZ cL a) A) A) args s 0 0 A) (F0 m 192 ls []) := by
  intro x1 x2 x3 x4 u H locs ls hw hl h
  unfold wp_M_parts_192 at h
  obtain ⟨hx, hb, hr, hml, hown, hts, hlk, hK, hA⟩ := id cx
  refine lv_iconst (v := 1) hx hb d_M_parts_192 (by decide) ?_
  refine lv_goto (tgt := 197) hx hb d_M_parts_193 (by decide) ?_
  exact wk_M_parts_197 cx post hkn30 hkn76 hkn85 x1 x2 x3 x4 1 u _ _ _ hw (lv_sub hl [0, 1, 2, 3, 4] rfl) h
set_option maxRecDepth 100000 in
set_option maxHeartbeats 4000000 in
theorem wk_M_parts_85 {p : Program} {l : Launch} {e : Env} {s : State} {m : MethodId} {args : Array Value} {below : List Frame} {meth : Method} {c : Code} {A : Nat → Prop} {D : va_G} {cI cZ cL : ClassId} {a : Nat → Nat} (cx : zz_Cx p s m args meth c "GridFillsModel" b_M_parts 8 (some .int) D zz_cl (zz_ty cI cZ cL) A) (post : Int32 → zz_St → Prop) {kn30 : Int32 → Int32 → zz_St → Prop} {kn76 : Int32 → Int32 → Int32 → zz_St → Prop} {kn85 : Int32 → Int32 → Int32 → Int32 → zz_St → Prop} (hkn30 : ∀ (x1 : Int32) (x2 : Int32) (u : zz_St) (H : Heap) (locs : List Loc) (ls : Array Slot), zz_Wd D zz_cl A s.heap H locs (gw_M cI cZ cL a u) → lv_has ls 8 [(0, .ref (a 0)), (1, .int x1), (2, .int x2)] → kn30 x1 x2 u → W p l e (rm_M_parts) s m args below meth c H locs 0 0 (MQ below (va_Qi post (zz_B D zz_cl (zz_ty cI cZ cL) (gw_M cI cZ cL a) A) A) args s 0 0 A) (F0 m 30 ls [])) (hkn76 : ∀ (x1 : Int32) (x2 : Int32) (x3 : Int32) (u : zz_St) (H : Heap) (locs : List Loc) (ls : Array Slot), zz_Wd D zz_cl A s.heap H locs (gw_M cI cZ cL a u) → lv_has ls 8 [(0, .ref (a 0)), (1, .int x1), (2, .int x2), (3, .int x3)] → kn76 x1 x2 x3 u → W p l e (rm_M_parts) s m args below meth c H locs 0 0 (MQ below (va_Qi post (zz_B D zz_cl (zz_ty cI cZ cL) (gw_M cI cZ cL a) A) A) args s 0 0 A) (F0 m 76 ls [])) (hkn85 : ∀ (x1 : Int32) (x2 : Int32) (x3 : Int32) (x4 : Int32) (u : zz_St) (H : Heap) (locs : List Loc) (ls : Array Slot), zz_Wd D zz_cl A s.heap H locs (gw_M cI cZ cL a u) → lv_has ls 8 [(0, .ref (a 0)), (1, .int x1), (2, .int x2), (3, .int x3), (4, .int x4)] → kn85 x1 x2 x3 x4 u → W p l e (rm_M_parts) s m args below meth c H locs 0 0 (MQ below (va_Qi post (zz_B D zz_cl (zz_ty cI cZ cL) (gw_M cI cZ cL a) A) A) args s 0 0 A) (F0 m 85 ls [])) : ∀ (x1 : Int32) (x2 : Int32) (x3 : Int32) (x4 : Int32) (u : zz_St) (H : Heap) (locs : List Loc) (ls : Array Slot), zz_Wd D zz_cl A s.heap H locs (gw_M cI cZ cL a u) → lv_has ls 8 [(0, .ref (a 0)), (1, .int x1), (2, .int x2), (3, .int x3), (4, .int x4)] → wp_M_parts_85 post kn30 kn76 kn85 x1 x2 x3 x4 u → W p l e (rm_M_parts) s m args below meth c H locs 0 0 (MQ below (va_Qi post (zz_B D zz_cl (zz_ty cI cZ cL) (gw_M cI cZ cL a) A) A) args s 0 0 A) (F0 m 85 ls []) := by
  intro x1 x2 x3 x4 u H locs ls hw hl h
  unfold wp_M_parts_85 at h
  obtain ⟨hx, hb, hr, hml, hown, hts, hlk, hK, hA⟩ := id cx
  refine lv_iload hx hb d_M_parts_85 (lv_at hl 4 rfl) ?_
  refine lv_aload_n hx hb d_M_parts_87 rfl (lv_at hl 0 rfl) ?_
  refine zz_get (v2 := .int (sg_i u 1)) cx hw in_M 0 rfl rfl 1 (by decide) kw_296 rfl rfl d_M_parts_88 ?_
  refine lv_aload_n hx hb d_M_parts_91 rfl (lv_at hl 0 rfl) ?_
  refine zz_get (v2 := .int (sg_i u 2)) cx hw in_M 0 rfl rfl 2 (by decide) kw_297 rfl rfl d_M_parts_92 ?_
  refine lv_imul hx hb d_M_parts_95 ?_
  refine lv_icmp_ge (tgt := 229) hx hb d_M_parts_96 (by decide) (fun c6 => ?_) (fun c6 => ?_)
  · replace h := h.1 c6
    refine lv_goto (tgt := 76) hx hb d_M_parts_229 (by decide) ?_
    exact hkn76 x1 x2 x3 u _ _ _ hw (lv_sub hl [0, 1, 2, 3] rfl) h
  · replace h := h.2 c6
    refine lv_aload_n hx hb d_M_parts_99 rfl (lv_at hl 0 rfl) ?_
    refine zz_get (v2 := .ref (a 1)) cx hw in_M 0 rfl rfl 3 (by decide) kw_298 rfl rfl d_M_parts_100 ?_
    refine lv_iload hx hb d_M_parts_103 (lv_at hl 4 rfl) ?_
    obtain ⟨hi, h⟩ := h
    refine zz_zald (f2 := sg_a u 0) cx hw 1 1 rfl rfl hi rfl d_M_parts_105 ?_
    refine lv_if_ne (tgt := 223) hx hb d_M_parts_106 (by decide) (fun c7 => ?_) (fun c7 => ?_)
    · replace h := h.2 c7
      exact wk_M_parts_223 cx post hkn30 hkn76 hkn85 x1 x2 x3 x4 u _ _ _ hw (lv_sub hl [0, 1, 2, 3, 4] rfl) h
    · replace h := h.1 c7
      refine lv_aload_n hx hb d_M_parts_109 rfl (lv_at hl 0 rfl) ?_
      refine zz_get (v2 := .ref (a 18)) cx hw in_M 0 rfl rfl 27 (by decide) kw_391 rfl rfl d_M_parts_110 ?_
      refine lv_iload hx hb d_M_parts_113 (lv_at hl 4 rfl) ?_
      obtain ⟨hi, h⟩ := h
      refine zz_zald (f2 := sg_a u 17) cx hw 18 1 rfl rfl hi rfl d_M_parts_115 ?_
      refine lv_if_eq (tgt := 122) hx hb d_M_parts_116 (by decide) (fun c8 => ?_) (fun c8 => ?_)
      · replace h := h.1 c8
        refine lv_iload hx hb d_M_parts_122 (lv_at hl 4 rfl) ?_
        refine lv_aload_n hx hb d_M_parts_124 rfl (lv_at hl 0 rfl) ?_
        refine zz_get (v2 := .int (sg_i u 1)) cx hw in_M 0 rfl rfl 1 (by decide) kw_296 rfl rfl d_M_parts_125 ?_
        obtain ⟨hi, h⟩ := h
        refine lv_irem hx hb d_M_parts_128 hi ?_
        refine lv_topi (fun v9 ev9 => ?_)
        replace h := h v9 ev9
        refine lv_istore (lv' := [(5, .int v9), (0, .ref (a 0)), (1, .int x1), (2, .int x2), (3, .int x3), (4, .int x4)]) hx hb d_M_parts_129 hl (by decide) rfl (fun ls hl => ?_)
        refine lv_iload hx hb d_M_parts_131 (lv_at hl 5 rfl) ?_
        refine lv_aload_n hx hb d_M_parts_133 rfl (lv_at hl 1 rfl) ?_
        refine zz_get (v2 := .int (sg_i u 1)) cx hw in_M 0 rfl rfl 1 (by decide) kw_296 rfl rfl d_M_parts_134 ?_
        obtain ⟨hi, h⟩ := h
        refine lv_idiv hx hb d_M_parts_137 hi ?_
        refine lv_topi (fun v10 ev10 => ?_)
        replace h := h v10 ev10
        refine lv_istore (lv' := [(6, .int v10), (5, .int v9), (0, .ref (a 0)), (1, .int x1), (2, .int x2), (3, .int x3), (4, .int x4)]) hx hb d_M_parts_138 hl (by decide) rfl (fun ls hl => ?_)
        refine lv_aload_n hx hb d_M_parts_140 rfl (lv_at hl 2 rfl) ?_
        refine lv_iload hx hb d_M_parts_141 (lv_at hl 1 rfl) ?_
        refine lv_iconst (v := 1) hx hb d_M_parts_143 (by decide) ?_
        refine lv_isub hx hb d_M_parts_144 ?_
        refine lv_iload hx hb d_M_parts_145 (lv_at hl 0 rfl) ?_
        refine zz_callVi (As := [.int (v9 - 1), .int v10]) (rest := []) cx hw (ct_M_isSeen l D cI cZ cL a h) (zz_gV kw_392 kw_394 kw_395 kw_301 kw_393) hd_M_isSeen ⟨rfl, rfl⟩ ⟨Nat.le_of_ble_eq_true rfl, Nat.le_of_ble_eq_true rfl⟩ 0 rfl rfl rfl rfl hl.1 rfl (Nat.le_of_ble_eq_true rfl) d_M_parts_147 (fun r12 s11 H locs h hw => ?_)
        refine lv_if_ne (tgt := 192) hx hb d_M_parts_150 (by decide) (fun c13 => ?_) (fun c13 => ?_)
        · replace h := h.2 c13
          exact wk_M_parts_192 cx post hkn30 hkn76 hkn85 x1 x2 x3 x4 s11 _ _ _ hw (lv_sub hl [2, 3, 4, 5, 6] rfl) h
        · replace h := h.1 c13
          refine lv_aload_n hx hb d_M_parts_153 rfl (lv_at hl 2 rfl) ?_
          refine lv_iload hx hb d_M_parts_154 (lv_at hl 1 rfl) ?_
          refine lv_iconst (v := 1) hx hb d_M_parts_156 (by decide) ?_
          refine lv_iadd hx hb d_M_parts_157 ?_
          refine lv_iload hx hb d_M_parts_158 (lv_at hl 0 rfl) ?_
          refine zz_callVi (As := [.int (v9 + 1), .int v10]) (rest := []) cx hw (ct_M_isSeen l D cI cZ cL a h) (zz_gV kw_392 kw_394 kw_395 kw_301 kw_393) hd_M_isSeen ⟨rfl, rfl⟩ ⟨Nat.le_of_ble_eq_true rfl, Nat.le_of_ble_eq_true rfl⟩ 0 rfl rfl rfl rfl hl.1 rfl (Nat.le_of_ble_eq_true rfl) d_M_parts_160 (fun r15 s14 H locs h hw => ?_)
          refine lv_if_ne (tgt := 192) hx hb d_M_parts_163 (by decide) (fun c16 => ?_) (fun c16 => ?_)
          · replace h := h.2 c16
            exact wk_M_parts_192 cx post hkn30 hkn76 hkn85 x1 x2 x3 x4 s14 _ _ _ hw (lv_sub hl [2, 3, 4, 5, 6] rfl) h
          · replace h := h.1 c16
            refine lv_aload_n hx hb d_M_parts_166 rfl (lv_at hl 2 rfl) ?_
            refine lv_iload hx hb d_M_parts_167 (lv_at hl 1 rfl) ?_
            refine lv_iload hx hb d_M_parts_169 (lv_at hl 0 rfl) ?_
            refine lv_iconst (v := 1) hx hb d_M_parts_171 (by decide) ?_
            refine lv_isub hx hb d_M_parts_172 ?_
            refine zz_callVi (As := [.int v9, .int (v10 - 1)]) (rest := []) cx hw (ct_M_isSeen l D cI cZ cL a h) (zz_gV kw_392 kw_394 kw_395 kw_301 kw_393) hd_M_isSeen ⟨rfl, rfl⟩ ⟨Nat.le_of_ble_eq_true rfl, Nat.le_of_ble_eq_true rfl⟩ 0 rfl rfl rfl rfl hl.1 rfl (Nat.le_of_ble_eq_true rfl) d_M_parts_173 (fun r18 s17 H locs h hw => ?_)
            refine lv_if_ne (tgt := 192) hx hb d_M_parts_176 (by decide) (fun c19 => ?_) (fun c19 => ?_)
            · replace h := h.2 c19
              exact wk_M_parts_192 cx post hkn30 hkn76 hkn85 x1 x2 x3 x4 s17 _ _ _ hw (lv_sub hl [2, 3, 4, 5, 6] rfl) h
            · replace h := h.1 c19
              refine lv_aload_n hx hb d_M_parts_179 rfl (lv_at hl 2 rfl) ?_
              refine lv_iload hx hb d_M_parts_180 (lv_at hl 1 rfl) ?_
              refine lv_iload hx hb d_M_parts_182 (lv_at hl 0 rfl) ?_
              refine lv_iconst (v := 1) hx hb d_M_parts_184 (by decide) ?_
              refine lv_iadd hx hb d_M_parts_185 ?_
              refine zz_callVi (As := [.int v9, .int (v10 + 1)]) (rest := []) cx hw (ct_M_isSeen l D cI cZ cL a h) (zz_gV kw_392 kw_394 kw_395 kw_301 kw_393) hd_M_isSeen ⟨rfl, rfl⟩ ⟨Nat.le_of_ble_eq_true rfl, Nat.le_of_ble_eq_true rfl⟩ 0 rfl rfl rfl rfl hl.1 rfl (Nat.le_of_ble_eq_true rfl) d_M_parts_186 (fun r21 s20 H locs h hw => ?_)
              refine lv_if_eq (tgt := 196) hx hb d_M_parts_189 (by decide) (fun c22 => ?_) (fun c22 => ?_)
              · replace h := h.1 c22
                refine lv_iconst (v := 0) hx hb d_M_parts_196 (by decide) ?_
                exact wk_M_parts_197 cx post hkn30 hkn76 hkn85 x1 x2 x3 x4 0 s20 _ _ _ hw (lv_sub hl [2, 3, 4, 5, 6] rfl) h
              · replace h := h.2 c22
                exact wk_M_parts_192 cx post hkn30 hkn76 hkn85 x1 x2 x3 x4 s20 _ _ _ hw (lv_sub hl [2, 3, 4, 5, 6] rfl) h
      · replace h := h.2 c8
        refine lv_goto (tgt := 223) hx hb d_M_parts_119 (by decide) ?_
        exact wk_M_parts_223 cx post hkn30 hkn76 hkn85 x1 x2 x3 x4 u _ _ _ hw (lv_sub hl [0, 1, 2, 3, 4] rfl) h
set_option maxRecDepth 100000 in
set_option maxHeartbeats 4000000 in
theorem wk_M_parts_85_f {p : Program} {l : Launch} {e : Env} {s : State} {m : MethodId} {args : Array Value} {below : List Frame} {meth : Method} {c : Code} {A : Nat → Prop} {D : va_G} {cI cZ cL : ClassId} {a : Nat → Nat} (cx : zz_Cx p s m args meth c "GridFillsModel" b_M_parts 8 (some .int) D zz_cl (zz_ty cI cZ cL) A) (post : Int32 → zz_St → Prop) {kn30 : Int32 → Int32 → zz_St → Prop} {kn76 : Int32 → Int32 → Int32 → zz_St → Prop} (hkn30 : ∀ (x1 : Int32) (x2 : Int32) (u : zz_St) (H : Heap) (locs : List Loc) (ls : Array Slot), zz_Wd D zz_cl A s.heap H locs (gw_M cI cZ cL a u) → lv_has ls 8 [(0, .ref (a 0)), (1, .int x1), (2, .int x2)] → kn30 x1 x2 u → W p l e (rm_M_parts) s m args below meth c H locs 0 0 (MQ below (va_Qi post (zz_B D zz_cl (zz_ty cI cZ cL) (gw_M cI cZ cL a) A) A) args s 0 0 A) (F0 m 30 ls [])) (hkn76 : ∀ (x1 : Int32) (x2 : Int32) (x3 : Int32) (u : zz_St) (H : Heap) (locs : List Loc) (ls : Array Slot), zz_Wd D zz_cl A s.heap H locs (gw_M cI cZ cL a u) → lv_has ls 8 [(0, .ref (a 0)), (1, .int x1), (2, .int x2), (3, .int x3)] → kn76 x1 x2 x3 u → W p l e (rm_M_parts) s m args below meth c H locs 0 0 (MQ below (va_Qi post (zz_B D zz_cl (zz_ty cI cZ cL) (gw_M cI cZ cL a) A) A) args s 0 0 A) (F0 m 76 ls [])) : ∀ n : Nat, ∀ (x1 : Int32) (x2 : Int32) (x3 : Int32) (x4 : Int32) (u : zz_St) (H : Heap) (locs : List Loc) (ls : Array Slot), zz_Wd D zz_cl A s.heap H locs (gw_M cI cZ cL a u) → lv_has ls 8 [(0, .ref (a 0)), (1, .int x1), (2, .int x2), (3, .int x3), (4, .int x4)] → wp_M_parts_85_f post kn30 kn76 n x1 x2 x3 x4 u → W p l e (rm_M_parts) s m args below meth c H locs 0 0 (MQ below (va_Qi post (zz_B D zz_cl (zz_ty cI cZ cL) (gw_M cI cZ cL a) A) A) args s 0 0 A) (F0 m 85 ls []) := by
  intro n
  induction n with
  | zero => exact fun _ _ _ _ _ _ _ _ _ _ h => False.elim h
  | succ n ih => exact wk_M_parts_85 cx post hkn30 hkn76 ih
set_option maxRecDepth 100000 in
set_option maxHeartbeats 4000000 in
theorem wk_M_parts_232 {p : Program} {l : Launch} {e : Env} {s : State} {m : MethodId} {args : Array Value} {below : List Frame} {meth : Method} {c : Code} {A : Nat → Prop} {D : va_G} {cI cZ cL : ClassId} {a : Nat → Nat} (cx : zz_Cx p s m args meth c "GridFillsModel" b_M_parts 8 (some .int) D zz_cl (zz_ty cI cZ cL) A) (post : Int32 → zz_St → Prop) {kn30 : Int32 → Int32 → zz_St → Prop} (hkn30 : ∀ (x1 : Int32) (x2 : Int32) (u : zz_St) (H : Heap) (locs : List Loc) (ls : Array Slot), zz_Wd D zz_cl A s.heap H locs (gw_M cI cZ cL a u) → lv_has ls 8 [(0, .ref (a 0)), (1, .int x1), (2, .int x2)] → kn30 x1 x2 u → W p l e (rm_M_parts) s m args below meth c H locs 0 0 (MQ below (va_Qi post (zz_B D zz_cl (zz_ty cI cZ cL) (gw_M cI cZ cL a) A) A) args s 0 0 A) (F0 m 30 ls [])) : ∀ (x1 : Int32) (x2 : Int32) (u : zz_St) (H : Heap) (locs : List Loc) (ls : Array Slot), zz_Wd D zz_cl A s.heap H locs (gw_M cI cZ cL a u) → lv_has ls 8 [(0, .ref (a 0)), (1, .int x1), (2, .int x2)] → wp_M_parts_232 post kn30 x1 x2 u → W p l e (rm_M_parts) s m args below meth c H locs 0 0 (MQ below (va_Qi post (zz_B D zz_cl (zz_ty cI cZ cL) (gw_M cI cZ cL a) A) A) args s 0 0 A) (F0 m 232 ls []) := by
  intro x1 x2 u H locs ls hw hl h
  unfold wp_M_parts_232 at h
  obtain ⟨hx, hb, hr, hml, hown, hts, hlk, hK, hA⟩ := id cx
  refine lv_iinc (v := x2 + 1) (lv' := [(2, .int (x2 + 1)), (0, .ref (a 0)), (1, .int x1)]) hx hb d_M_parts_232 hl (k := 2) rfl rfl (by decide) rfl (fun ls hl => ?_)
  refine lv_goto (tgt := 30) hx hb d_M_parts_235 (by decide) ?_
  exact hkn30 x1 (x2 + 1) u _ _ _ hw (lv_sub hl [1, 2, 0] rfl) h
set_option maxRecDepth 100000 in
set_option maxHeartbeats 4000000 in
theorem wk_M_parts_76 {p : Program} {l : Launch} {e : Env} {s : State} {m : MethodId} {args : Array Value} {below : List Frame} {meth : Method} {c : Code} {A : Nat → Prop} {D : va_G} {cI cZ cL : ClassId} {a : Nat → Nat} (cx : zz_Cx p s m args meth c "GridFillsModel" b_M_parts 8 (some .int) D zz_cl (zz_ty cI cZ cL) A) (post : Int32 → zz_St → Prop) {kn30 : Int32 → Int32 → zz_St → Prop} {kn76 : Int32 → Int32 → Int32 → zz_St → Prop} (hkn30 : ∀ (x1 : Int32) (x2 : Int32) (u : zz_St) (H : Heap) (locs : List Loc) (ls : Array Slot), zz_Wd D zz_cl A s.heap H locs (gw_M cI cZ cL a u) → lv_has ls 8 [(0, .ref (a 0)), (1, .int x1), (2, .int x2)] → kn30 x1 x2 u → W p l e (rm_M_parts) s m args below meth c H locs 0 0 (MQ below (va_Qi post (zz_B D zz_cl (zz_ty cI cZ cL) (gw_M cI cZ cL a) A) A) args s 0 0 A) (F0 m 30 ls [])) (hkn76 : ∀ (x1 : Int32) (x2 : Int32) (x3 : Int32) (u : zz_St) (H : Heap) (locs : List Loc) (ls : Array Slot), zz_Wd D zz_cl A s.heap H locs (gw_M cI cZ cL a u) → lv_has ls 8 [(0, .ref (a 0)), (1, .int x1), (2, .int x2), (3, .int x3)] → kn76 x1 x2 x3 u → W p l e (rm_M_parts) s m args below meth c H locs 0 0 (MQ below (va_Qi post (zz_B D zz_cl (zz_ty cI cZ cL) (gw_M cI cZ cL a) A) A) args s 0 0 A) (F0 m 76 ls [])) : ∀ (x1 : Int32) (x2 : Int32) (x3 : Int32) (u : zz_St) (H : Heap) (locs : List Loc) (ls : Array Slot), zz_Wd D zz_cl A s.heap H locs (gw_M cI cZ cL a u) → lv_has ls 8 [(0, .ref (a 0)), (1, .int x1), (2, .int x2), (3, .int x3)] → wp_M_parts_76 post kn30 kn76 x1 x2 x3 u → W p l e (rm_M_parts) s m args below meth c H locs 0 0 (MQ below (va_Qi post (zz_B D zz_cl (zz_ty cI cZ cL) (gw_M cI cZ cL a) A) A) args s 0 0 A) (F0 m 76 ls []) := by
  intro x1 x2 x3 u H locs ls hw hl h
  unfold wp_M_parts_76 at h
  obtain ⟨hx, hb, hr, hml, hown, hts, hlk, hK, hA⟩ := id cx
  refine lv_iload_n hx hb d_M_parts_76 rfl (lv_at hl 3 rfl) ?_
  refine lv_if_eq (tgt := 232) hx hb d_M_parts_77 (by decide) (fun c5 => ?_) (fun c5 => ?_)
  · replace h := h.1 c5
    exact wk_M_parts_232 cx post hkn30 x1 x2 u _ _ _ hw (lv_sub hl [0, 1, 2] rfl) h
  · replace h := h.2 c5
    refine lv_iconst (v := 0) hx hb d_M_parts_80 (by decide) ?_
    refine lv_istore_n (lv' := [(3, .int 0), (0, .ref (a 0)), (1, .int x1), (2, .int x2)]) hx hb d_M_parts_81 rfl hl (by decide) rfl (fun ls hl => ?_)
    refine lv_iconst (v := 0) hx hb d_M_parts_82 (by decide) ?_
    refine lv_istore (lv' := [(4, .int 0), (3, .int 0), (0, .ref (a 0)), (1, .int x1), (2, .int x2)]) hx hb d_M_parts_83 hl (by decide) rfl (fun ls hl => ?_)
    obtain ⟨n, h⟩ := h
    exact wk_M_parts_85_f cx post hkn30 hkn76 n x1 x2 0 0 u _ _ _ hw (lv_sub hl [2, 3, 4, 1, 0] rfl) h
set_option maxRecDepth 100000 in
set_option maxHeartbeats 4000000 in
theorem wk_M_parts_76_f {p : Program} {l : Launch} {e : Env} {s : State} {m : MethodId} {args : Array Value} {below : List Frame} {meth : Method} {c : Code} {A : Nat → Prop} {D : va_G} {cI cZ cL : ClassId} {a : Nat → Nat} (cx : zz_Cx p s m args meth c "GridFillsModel" b_M_parts 8 (some .int) D zz_cl (zz_ty cI cZ cL) A) (post : Int32 → zz_St → Prop) {kn30 : Int32 → Int32 → zz_St → Prop} (hkn30 : ∀ (x1 : Int32) (x2 : Int32) (u : zz_St) (H : Heap) (locs : List Loc) (ls : Array Slot), zz_Wd D zz_cl A s.heap H locs (gw_M cI cZ cL a u) → lv_has ls 8 [(0, .ref (a 0)), (1, .int x1), (2, .int x2)] → kn30 x1 x2 u → W p l e (rm_M_parts) s m args below meth c H locs 0 0 (MQ below (va_Qi post (zz_B D zz_cl (zz_ty cI cZ cL) (gw_M cI cZ cL a) A) A) args s 0 0 A) (F0 m 30 ls [])) : ∀ n : Nat, ∀ (x1 : Int32) (x2 : Int32) (x3 : Int32) (u : zz_St) (H : Heap) (locs : List Loc) (ls : Array Slot), zz_Wd D zz_cl A s.heap H locs (gw_M cI cZ cL a u) → lv_has ls 8 [(0, .ref (a 0)), (1, .int x1), (2, .int x2), (3, .int x3)] → wp_M_parts_76_f post kn30 n x1 x2 x3 u → W p l e (rm_M_parts) s m args below meth c H locs 0 0 (MQ below (va_Qi post (zz_B D zz_cl (zz_ty cI cZ cL) (gw_M cI cZ cL a) A) A) args s 0 0 A) (F0 m 76 ls []) := by
  intro n
  induction n with
  | zero => exact fun _ _ _ _ _ _ _ _ _ h => False.elim h
  | succ n ih => exact wk_M_parts_76 cx post hkn30 ih
set_option maxRecDepth 100000 in
set_option maxHeartbeats 4000000 in
theorem wk_M_parts_30 {p : Program} {l : Launch} {e : Env} {s : State} {m : MethodId} {args : Array Value} {below : List Frame} {meth : Method} {c : Code} {A : Nat → Prop} {D : va_G} {cI cZ cL : ClassId} {a : Nat → Nat} (cx : zz_Cx p s m args meth c "GridFillsModel" b_M_parts 8 (some .int) D zz_cl (zz_ty cI cZ cL) A) (post : Int32 → zz_St → Prop) {kn30 : Int32 → Int32 → zz_St → Prop} (hkn30 : ∀ (x1 : Int32) (x2 : Int32) (u : zz_St) (H : Heap) (locs : List Loc) (ls : Array Slot), zz_Wd D zz_cl A s.heap H locs (gw_M cI cZ cL a u) → lv_has ls 8 [(0, .ref (a 0)), (1, .int x1), (2, .int x2)] → kn30 x1 x2 u → W p l e (rm_M_parts) s m args below meth c H locs 0 0 (MQ below (va_Qi post (zz_B D zz_cl (zz_ty cI cZ cL) (gw_M cI cZ cL a) A) A) args s 0 0 A) (F0 m 30 ls [])) : ∀ (x1 : Int32) (x2 : Int32) (u : zz_St) (H : Heap) (locs : List Loc) (ls : Array Slot), zz_Wd D zz_cl A s.heap H locs (gw_M cI cZ cL a u) → lv_has ls 8 [(0, .ref (a 0)), (1, .int x1), (2, .int x2)] → wp_M_parts_30 post kn30 x1 x2 u → W p l e (rm_M_parts) s m args below meth c H locs 0 0 (MQ below (va_Qi post (zz_B D zz_cl (zz_ty cI cZ cL) (gw_M cI cZ cL a) A) A) args s 0 0 A) (F0 m 30 ls []) := by
  intro x1 x2 u H locs ls hw hl h
  unfold wp_M_parts_30 at h
  obtain ⟨hx, hb, hr, hml, hown, hts, hlk, hK, hA⟩ := id cx
  refine lv_iload_n hx hb d_M_parts_30 rfl (lv_at hl 2 rfl) ?_
  refine lv_aload_n hx hb d_M_parts_31 rfl (lv_at hl 0 rfl) ?_
  refine zz_get (v2 := .int (sg_i u 1)) cx hw in_M 0 rfl rfl 1 (by decide) kw_296 rfl rfl d_M_parts_32 ?_
  refine lv_aload_n hx hb d_M_parts_35 rfl (lv_at hl 0 rfl) ?_
  refine zz_get (v2 := .int (sg_i u 2)) cx hw in_M 0 rfl rfl 2 (by decide) kw_297 rfl rfl d_M_parts_36 ?_
  refine lv_imul hx hb d_M_parts_39 ?_
  refine lv_icmp_ge (tgt := 238) hx hb d_M_parts_40 (by decide) (fun c2 => ?_) (fun c2 => ?_)
  · replace h := h.1 c2
    refine lv_iload_n hx hb d_M_parts_238 rfl (lv_at hl 1 rfl) ?_
    exact zz_reti cx hw d_M_parts_239 h
  · replace h := h.2 c2
    refine lv_aload_n hx hb d_M_parts_43 rfl (lv_at hl 0 rfl) ?_
    refine zz_get (v2 := .ref (a 1)) cx hw in_M 0 rfl rfl 3 (by decide) kw_298 rfl rfl d_M_parts_44 ?_
    refine lv_iload_n hx hb d_M_parts_47 rfl (lv_at hl 2 rfl) ?_
    obtain ⟨hi, h⟩ := h
    refine zz_zald (f2 := sg_a u 0) cx hw 1 1 rfl rfl hi rfl d_M_parts_48 ?_
    refine lv_if_ne (tgt := 232) hx hb d_M_parts_49 (by decide) (fun c3 => ?_) (fun c3 => ?_)
    · replace h := h.2 c3
      exact wk_M_parts_232 cx post hkn30 x1 x2 u _ _ _ hw (lv_sub hl [0, 1, 2] rfl) h
    · replace h := h.1 c3
      refine lv_aload_n hx hb d_M_parts_52 rfl (lv_at hl 0 rfl) ?_
      refine zz_get (v2 := .ref (a 18)) cx hw in_M 0 rfl rfl 27 (by decide) kw_391 rfl rfl d_M_parts_53 ?_
      refine lv_iload_n hx hb d_M_parts_56 rfl (lv_at hl 2 rfl) ?_
      obtain ⟨hi, h⟩ := h
      refine zz_zald (f2 := sg_a u 17) cx hw 18 1 rfl rfl hi rfl d_M_parts_57 ?_
      refine lv_if_eq (tgt := 64) hx hb d_M_parts_58 (by decide) (fun c4 => ?_) (fun c4 => ?_)
      · replace h := h.1 c4
        refine lv_iinc (v := x1 + 1) (lv' := [(1, .int (x1 + 1)), (0, .ref (a 0)), (2, .int x2)]) hx hb d_M_parts_64 hl (k := 1) rfl rfl (by decide) rfl (fun ls hl => ?_)
        refine lv_aload_n hx hb d_M_parts_67 rfl (lv_at hl 1 rfl) ?_
        refine zz_get (v2 := .ref (a 18)) cx hw in_M 0 rfl rfl 27 (by decide) kw_391 rfl rfl d_M_parts_68 ?_
        refine lv_iload_n hx hb d_M_parts_71 rfl (lv_at hl 2 rfl) ?_
        refine lv_iconst (v := 1) hx hb d_M_parts_72 (by decide) ?_
        obtain ⟨hi, h⟩ := h
        refine zz_zast (ws' := gw_M cI cZ cL a (ss_a u 17 (upd (sg_a u 17) x2.toNatClampNeg 1))) cx hw 18 1 rfl rfl hi (by decide) rfl (gw_M_a17 _ _ _ _ _ _) d_M_parts_73 (fun H locs hw => ?_)
        refine lv_iconst (v := 1) hx hb d_M_parts_74 (by decide) ?_
        refine lv_istore_n (lv' := [(3, .int 1), (1, .int (x1 + 1)), (0, .ref (a 0)), (2, .int x2)]) hx hb d_M_parts_75 rfl hl (by decide) rfl (fun ls hl => ?_)
        obtain ⟨n, h⟩ := h
        exact wk_M_parts_76_f cx post hkn30 n (x1 + 1) x2 1 (ss_a u 17 (upd (sg_a u 17) x2.toNatClampNeg 1)) _ _ _ hw (lv_sub hl [2, 1, 3, 0] rfl) h
      · replace h := h.2 c4
        refine lv_goto (tgt := 232) hx hb d_M_parts_61 (by decide) ?_
        exact wk_M_parts_232 cx post hkn30 x1 x2 u _ _ _ hw (lv_sub hl [0, 1, 2] rfl) h
set_option maxRecDepth 100000 in
set_option maxHeartbeats 4000000 in
theorem wk_M_parts_30_f {p : Program} {l : Launch} {e : Env} {s : State} {m : MethodId} {args : Array Value} {below : List Frame} {meth : Method} {c : Code} {A : Nat → Prop} {D : va_G} {cI cZ cL : ClassId} {a : Nat → Nat} (cx : zz_Cx p s m args meth c "GridFillsModel" b_M_parts 8 (some .int) D zz_cl (zz_ty cI cZ cL) A) (post : Int32 → zz_St → Prop) : ∀ n : Nat, ∀ (x1 : Int32) (x2 : Int32) (u : zz_St) (H : Heap) (locs : List Loc) (ls : Array Slot), zz_Wd D zz_cl A s.heap H locs (gw_M cI cZ cL a u) → lv_has ls 8 [(0, .ref (a 0)), (1, .int x1), (2, .int x2)] → wp_M_parts_30_f post n x1 x2 u → W p l e (rm_M_parts) s m args below meth c H locs 0 0 (MQ below (va_Qi post (zz_B D zz_cl (zz_ty cI cZ cL) (gw_M cI cZ cL a) A) A) args s 0 0 A) (F0 m 30 ls []) := by
  intro n
  induction n with
  | zero => exact fun _ _ _ _ _ _ _ _ h => False.elim h
  | succ n ih => exact wk_M_parts_30 cx post ih
set_option maxRecDepth 100000 in
set_option maxHeartbeats 4000000 in
theorem wk_M_parts_7 {p : Program} {l : Launch} {e : Env} {s : State} {m : MethodId} {args : Array Value} {below : List Frame} {meth : Method} {c : Code} {A : Nat → Prop} {D : va_G} {cI cZ cL : ClassId} {a : Nat → Nat} (cx : zz_Cx p s m args meth c "GridFillsModel" b_M_parts 8 (some .int) D zz_cl (zz_ty cI cZ cL) A) (post : Int32 → zz_St → Prop) {kn7 : Int32 → zz_St → Prop} (hkn7 : ∀ (x1 : Int32) (u : zz_St) (H : Heap) (locs : List Loc) (ls : Array Slot), zz_Wd D zz_cl A s.heap H locs (gw_M cI cZ cL a u) → lv_has ls 8 [(0, .ref (a 0)), (1, .int x1)] → kn7 x1 u → W p l e (rm_M_parts) s m args below meth c H locs 0 0 (MQ below (va_Qi post (zz_B D zz_cl (zz_ty cI cZ cL) (gw_M cI cZ cL a) A) A) args s 0 0 A) (F0 m 7 ls [])) : ∀ (x1 : Int32) (u : zz_St) (H : Heap) (locs : List Loc) (ls : Array Slot), zz_Wd D zz_cl A s.heap H locs (gw_M cI cZ cL a u) → lv_has ls 8 [(0, .ref (a 0)), (1, .int x1)] → wp_M_parts_7 post kn7 x1 u → W p l e (rm_M_parts) s m args below meth c H locs 0 0 (MQ below (va_Qi post (zz_B D zz_cl (zz_ty cI cZ cL) (gw_M cI cZ cL a) A) A) args s 0 0 A) (F0 m 7 ls []) := by
  intro x1 u H locs ls hw hl h
  unfold wp_M_parts_7 at h
  obtain ⟨hx, hb, hr, hml, hown, hts, hlk, hK, hA⟩ := id cx
  refine lv_iload_n hx hb d_M_parts_7 rfl (lv_at hl 1 rfl) ?_
  refine lv_bipush (v := 36) hx hb d_M_parts_8 (by decide) ?_
  refine lv_icmp_ge (tgt := 26) hx hb d_M_parts_10 (by decide) (fun c1 => ?_) (fun c1 => ?_)
  · replace h := h.1 c1
    refine lv_iconst (v := 0) hx hb d_M_parts_26 (by decide) ?_
    refine lv_istore_n (lv' := [(1, .int 0), (0, .ref (a 0))]) hx hb d_M_parts_27 rfl hl (by decide) rfl (fun ls hl => ?_)
    refine lv_iconst (v := 0) hx hb d_M_parts_28 (by decide) ?_
    refine lv_istore_n (lv' := [(2, .int 0), (1, .int 0), (0, .ref (a 0))]) hx hb d_M_parts_29 rfl hl (by decide) rfl (fun ls hl => ?_)
    obtain ⟨n, h⟩ := h
    exact wk_M_parts_30_f cx post  n 0 0 u _ _ _ hw (lv_sub hl [2, 1, 0] rfl) h
  · replace h := h.2 c1
    refine lv_aload_n hx hb d_M_parts_13 rfl (lv_at hl 0 rfl) ?_
    refine zz_get (v2 := .ref (a 18)) cx hw in_M 0 rfl rfl 27 (by decide) kw_391 rfl rfl d_M_parts_14 ?_
    refine lv_iload_n hx hb d_M_parts_17 rfl (lv_at hl 1 rfl) ?_
    refine lv_iconst (v := 0) hx hb d_M_parts_18 (by decide) ?_
    obtain ⟨hi, h⟩ := h
    refine zz_zast (ws' := gw_M cI cZ cL a (ss_a u 17 (upd (sg_a u 17) x1.toNatClampNeg 0))) cx hw 18 1 rfl rfl hi (by decide) rfl (gw_M_a17 _ _ _ _ _ _) d_M_parts_19 (fun H locs hw => ?_)
    refine lv_iinc (v := x1 + 1) (lv' := [(1, .int (x1 + 1)), (0, .ref (a 0))]) hx hb d_M_parts_20 hl (k := 1) rfl rfl (by decide) rfl (fun ls hl => ?_)
    refine lv_goto (tgt := 7) hx hb d_M_parts_23 (by decide) ?_
    exact hkn7 (x1 + 1) (ss_a u 17 (upd (sg_a u 17) x1.toNatClampNeg 0)) _ _ _ hw (lv_sub hl [1, 0] rfl) h
set_option maxRecDepth 100000 in
set_option maxHeartbeats 4000000 in
theorem wk_M_parts_7_f {p : Program} {l : Launch} {e : Env} {s : State} {m : MethodId} {args : Array Value} {below : List Frame} {meth : Method} {c : Code} {A : Nat → Prop} {D : va_G} {cI cZ cL : ClassId} {a : Nat → Nat} (cx : zz_Cx p s m args meth c "GridFillsModel" b_M_parts 8 (some .int) D zz_cl (zz_ty cI cZ cL) A) (post : Int32 → zz_St → Prop) : ∀ n : Nat, ∀ (x1 : Int32) (u : zz_St) (H : Heap) (locs : List Loc) (ls : Array Slot), zz_Wd D zz_cl A s.heap H locs (gw_M cI cZ cL a u) → lv_has ls 8 [(0, .ref (a 0)), (1, .int x1)] → wp_M_parts_7_f post n x1 u → W p l e (rm_M_parts) s m args below meth c H locs 0 0 (MQ below (va_Qi post (zz_B D zz_cl (zz_ty cI cZ cL) (gw_M cI cZ cL a) A) A) args s 0 0 A) (F0 m 7 ls []) := by
  intro n
  induction n with
  | zero => exact fun _ _ _ _ _ _ _ h => False.elim h
  | succ n ih => exact wk_M_parts_7 cx post ih
set_option maxRecDepth 100000 in
set_option maxHeartbeats 4000000 in
theorem ct_M_parts (l : Launch) (D : va_G) (cI cZ cL : ClassId) (a : Nat → Nat) {u : zz_St} {post : Int32 → zz_St → Prop} (h : wp_M_parts  u post) : zz_MI l y_M_parts (.code y_M_parts b_M_parts 8 (some .int) :: zz_tbl) (rm_M_parts) D zz_cl (zz_ty cI cZ cL) (gw_M cI cZ cL a) [.ref (a 0)] u post := by
  unfold wp_M_parts at h
  refine zz_ofI (by decide) (Nat.le_of_ble_eq_true rfl) ?_
  intro p e s m below meth c A cx hw ls hl
  obtain ⟨hx, hb, hr, hml, hown, hts, hlk, hK, hA⟩ := id cx
  refine lv_aload_n hx hb d_M_parts_0 rfl (lv_at hl 0 rfl) ?_
  refine lv_iconst (v := 0) hx hb d_M_parts_1 (by decide) ?_
  refine zz_put (v := .int 0) (ws' := gw_M cI cZ cL a (ss_i u 0 0)) cx hw in_M ty_M tk_M nm_M 0 rfl rfl 0 (by decide) kw_314 rfl ⟨rfl, rfl⟩ (Nat.le_of_ble_eq_true rfl) (gw_M_i0 _ _ _ _ _ _) d_M_parts_2 (fun H locs hw => ?_)
  refine lv_iconst (v := 0) hx hb d_M_parts_5 (by decide) ?_
  refine lv_istore_n (lv' := [(1, .int 0), (0, .ref (a 0))]) hx hb d_M_parts_6 rfl hl (by decide) rfl (fun ls hl => ?_)
  obtain ⟨n, h⟩ := h
  exact wk_M_parts_7_f cx post  n 0 (ss_i u 0 0) _ _ _ hw (lv_sub hl [1, 0] rfl) h
