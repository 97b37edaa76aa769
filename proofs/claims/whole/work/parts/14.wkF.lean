set_option maxRecDepth 100000 in
set_option maxHeartbeats 4000000 in
theorem ct_F_forget (l : Launch) (D : va_G) (cI cZ cL : ClassId) (a : Nat → Nat) {u : zz_St} {post : zz_St → Prop} (h : wp_F_forget  u post) : zz_MV l y_F_forget (.code y_F_forget b_F_forget 1 none :: zz_tbl) (rm_F_forget) D zz_cl (zz_ty cI cZ cL) (gw_C cI cZ cL a) [.ref (a 3)] u post := by
  unfold wp_F_forget at h
  refine zz_ofV (by decide) (Nat.le_of_ble_eq_true rfl) ?_
  intro p e s m below meth c A cx hw ls hl
  obtain ⟨hx, hb, hr, hml, hown, hts, hlk, hK, hA⟩ := id cx
  refine lv_aload_n hx hb d_F_forget_0 rfl (lv_at hl 0 rfl) ?_
  refine lv_iconst (v := (-1)) hx hb d_F_forget_1 (by decide) ?_
  refine zz_put (v := .int (-1)) (ws' := gw_C cI cZ cL a (ss_i u 6 (-1))) cx hw in_F ty_F tk_F nm_F 3 rfl rfl 3 (by decide) kw_102 rfl ⟨rfl, rfl⟩ (Nat.le_of_ble_eq_true rfl) (gw_C_i6 _ _ _ _ _ _) d_F_forget_2 (fun H locs hw => ?_)
  exact zz_retv cx hw d_F_forget_5 h
set_option maxRecDepth 100000 in
set_option maxHeartbeats 4000000 in
theorem ct_F_keep (l : Launch) (D : va_G) (cI cZ cL : ClassId) (a : Nat → Nat) {a1 : Int32} {u : zz_St} {post : zz_St → Prop} (h : wp_F_keep  a1 u post) : zz_MV l y_F_keep (.code y_F_keep b_F_keep 3 none :: zz_tbl) (rm_F_keep) D zz_cl (zz_ty cI cZ cL) (gw_C cI cZ cL a) [.ref (a 3), .ref (a 21), .int a1] u post := by
  unfold wp_F_keep at h
  refine zz_ofV (by decide) (Nat.le_of_ble_eq_true rfl) ?_
  intro p e s m below meth c A cx hw ls hl
  obtain ⟨hx, hb, hr, hml, hown, hts, hlk, hK, hA⟩ := id cx
  refine lv_aload_n hx hb d_F_keep_0 rfl (lv_at hl 1 rfl) ?_
  refine lv_iconst (v := 0) hx hb d_F_keep_1 (by decide) ?_
  refine lv_aload_n hx hb d_F_keep_2 rfl (lv_at hl 0 rfl) ?_
  refine zz_get (v2 := .ref (a 20)) cx hw in_F 3 rfl rfl 2 (by decide) kw_103 rfl rfl d_F_keep_3 ?_
  refine lv_iconst (v := 0) hx hb d_F_keep_6 (by decide) ?_
  refine lv_aload_n hx hb d_F_keep_7 rfl (lv_at hl 0 rfl) ?_
  refine zz_get (v2 := .ref (a 1)) cx hw in_F 3 rfl rfl 0 (by decide) kw_104 rfl rfl d_F_keep_8 ?_
  refine zz_get (v2 := .int (sg_i u 3)) cx hw in_G 1 rfl rfl 5 (by decide) kw_105 rfl rfl d_F_keep_11 ?_
  obtain ⟨h1, h2, h3, h4, h5, h⟩ := h
  refine zz_copyi (ws' := gw_C cI cZ cL a (ss_a u 15 (va_cpy (sg_a u 16) (sg_a u 15) (0 : Int32).toNatClampNeg (0 : Int32).toNatClampNeg (sg_i u 3).toNatClampNeg))) cx hw hl.1 kw_106 kw_87 kw_88 kw_89 21 20 0 rfl rfl rfl rfl (fun _ => rfl) rfl rfl h1 h2 h3 h4 h5 (Nat.le_of_ble_eq_true rfl) (Nat.le_of_ble_eq_true rfl) (gw_C_a15 _ _ _ _ _ _) d_F_keep_14 (fun H locs hw => ?_)
  refine lv_aload_n hx hb d_F_keep_17 rfl (lv_at hl 0 rfl) ?_
  refine lv_iload_n hx hb d_F_keep_18 rfl (lv_at hl 2 rfl) ?_
  refine zz_put (v := .int a1) (ws' := gw_C cI cZ cL a (ss_i (ss_a u 15 (va_cpy (sg_a u 16) (sg_a u 15) (0 : Int32).toNatClampNeg (0 : Int32).toNatClampNeg (sg_i u 3).toNatClampNeg)) 6 a1)) cx hw in_F ty_F tk_F nm_F 3 rfl rfl 3 (by decide) kw_102 rfl ⟨rfl, rfl⟩ (Nat.le_of_ble_eq_true rfl) (gw_C_i6 _ _ _ _ _ _) d_F_keep_19 (fun H locs hw => ?_)
  exact zz_retv cx hw d_F_keep_22 h
set_option maxRecDepth 100000 in
set_option maxHeartbeats 4000000 in
theorem ct_F_wordOf (l : Launch) (D : va_G) (cI cZ cL : ClassId) (a : Nat → Nat) {a0 : Int32} {u : zz_St} {post : Int32 → zz_St → Prop} (h : wp_F_wordOf  a0 u post) : zz_MI l y_F_wordOf (.code y_F_wordOf b_F_wordOf 2 (some .int) :: zz_tbl) (rm_F_wordOf) D zz_cl (zz_ty cI cZ cL) (gw_C cI cZ cL a) [.ref (a 3), .int a0] u post := by
  unfold wp_F_wordOf at h
  refine zz_ofI (by decide) (Nat.le_of_ble_eq_true rfl) ?_
  intro p e s m below meth c A cx hw ls hl
  obtain ⟨hx, hb, hr, hml, hown, hts, hlk, hK, hA⟩ := id cx
  refine lv_aload_n hx hb d_F_wordOf_0 rfl (lv_at hl 0 rfl) ?_
  refine zz_get (v2 := .int (sg_i u 6)) cx hw in_F 3 rfl rfl 3 (by decide) kw_102 rfl rfl d_F_wordOf_1 ?_
  refine lv_iconst (v := (-1)) hx hb d_F_wordOf_4 (by decide) ?_
  refine lv_icmp_ne (tgt := 12) hx hb d_F_wordOf_5 (by decide) (fun c1 => ?_) (fun c1 => ?_)
  · replace h := h.2 c1
    refine lv_aload_n hx hb d_F_wordOf_12 rfl (lv_at hl 0 rfl) ?_
    refine zz_get (v2 := .ref (a 20)) cx hw in_F 3 rfl rfl 2 (by decide) kw_103 rfl rfl d_F_wordOf_13 ?_
    refine lv_iload_n hx hb d_F_wordOf_16 rfl (lv_at hl 1 rfl) ?_
    obtain ⟨hi, h⟩ := h
    refine zz_iald (f2 := sg_a u 15) cx hw 20 0 rfl rfl hi rfl d_F_wordOf_17 ?_
    exact zz_reti cx hw d_F_wordOf_18 h
  · replace h := h.1 c1
    refine lv_iconst (v := (-1)) hx hb d_F_wordOf_8 (by decide) ?_
    refine lv_goto (tgt := 18) hx hb d_F_wordOf_9 (by decide) ?_
    exact zz_reti cx hw d_F_wordOf_18 h
set_option maxRecDepth 100000 in
set_option maxHeartbeats 4000000 in
theorem ct_F_letterBy (l : Launch) (D : va_G) (cI cZ cL : ClassId) (a : Nat → Nat) {a0 : Int32} {a1 : Int32} {u : zz_St} {post : Int32 → zz_St → Prop} (h : wp_F_letterBy  a0 a1 u post) : zz_MI l y_F_letterBy (.code y_F_letterBy b_F_letterBy 4 (some .int) :: zz_tbl) (rm_F_letterBy) D zz_cl (zz_ty cI cZ cL) (gw_C cI cZ cL a) [.ref (a 3), .int a0, .int a1] u post := by
  unfold wp_F_letterBy at h
  refine zz_ofI (by decide) (Nat.le_of_ble_eq_true rfl) ?_
  intro p e s m below meth c A cx hw ls hl
  obtain ⟨hx, hb, hr, hml, hown, hts, hlk, hK, hA⟩ := id cx
  refine lv_aload_n hx hb d_F_letterBy_0 rfl (lv_at hl 0 rfl) ?_
  refine zz_get (v2 := .ref (a 1)) cx hw in_F 3 rfl rfl 0 (by decide) kw_104 rfl rfl d_F_letterBy_1 ?_
  refine lv_iload_n hx hb d_F_letterBy_4 rfl (lv_at hl 1 rfl) ?_
  refine lv_iload_n hx hb d_F_letterBy_5 rfl (lv_at hl 2 rfl) ?_
  refine zz_callVi (As := [.int a0, .int a1]) (rest := []) cx hw (ct_G_slotAt l D cI cZ cL a h) (zz_gV kw_113 kw_115 kw_116 kw_13 kw_114) hd_G_slotAt ⟨rfl, rfl⟩ ⟨Nat.le_of_ble_eq_true rfl, Nat.le_of_ble_eq_true rfl⟩ 1 rfl rfl rfl rfl hl.1 rfl (Nat.le_of_ble_eq_true rfl) d_F_letterBy_6 (fun r2 s1 H locs h hw => ?_)
  refine lv_istore_n (lv' := [(3, .int r2), (0, .ref (a 3)), (1, .int a0), (2, .int a1)]) hx hb d_F_letterBy_9 rfl hl (by decide) rfl (fun ls hl => ?_)
  refine lv_aload_n hx hb d_F_letterBy_10 rfl (lv_at hl 1 rfl) ?_
  refine zz_get (v2 := .int (sg_i s1 6)) cx hw in_F 3 rfl rfl 3 (by decide) kw_102 rfl rfl d_F_letterBy_11 ?_
  refine lv_iconst (v := (-1)) hx hb d_F_letterBy_14 (by decide) ?_
  refine lv_icmp_eq (tgt := 23) hx hb d_F_letterBy_15 (by decide) (fun c3 => ?_) (fun c3 => ?_)
  · replace h := h.1 c3
    refine lv_iconst (v := 0) hx hb d_F_letterBy_23 (by decide) ?_
    exact zz_reti cx hw d_F_letterBy_24 h
  · replace h := h.2 c3
    refine lv_iload_n hx hb d_F_letterBy_18 rfl (lv_at hl 0 rfl) ?_
    refine lv_iconst (v := (-1)) hx hb d_F_letterBy_19 (by decide) ?_
    refine lv_icmp_ne (tgt := 25) hx hb d_F_letterBy_20 (by decide) (fun c4 => ?_) (fun c4 => ?_)
    · replace h := h.2 c4
      refine lv_aload_n hx hb d_F_letterBy_25 rfl (lv_at hl 1 rfl) ?_
      refine zz_get (v2 := .ref (a 2)) cx hw in_F 3 rfl rfl 1 (by decide) kw_107 rfl rfl d_F_letterBy_26 ?_
      refine lv_aload_n hx hb d_F_letterBy_29 rfl (lv_at hl 1 rfl) ?_
      refine zz_get (v2 := .ref (a 20)) cx hw in_F 3 rfl rfl 2 (by decide) kw_103 rfl rfl d_F_letterBy_30 ?_
      refine lv_iload_n hx hb d_F_letterBy_33 rfl (lv_at hl 0 rfl) ?_
      obtain ⟨hi, h⟩ := h
      refine zz_iald (f2 := sg_a s1 15) cx hw 20 0 rfl rfl hi rfl d_F_letterBy_34 ?_
      refine lv_aload_n hx hb d_F_letterBy_35 rfl (lv_at hl 1 rfl) ?_
      refine zz_get (v2 := .ref (a 1)) cx hw in_F 3 rfl rfl 0 (by decide) kw_104 rfl rfl d_F_letterBy_36 ?_
      refine lv_iload_n hx hb d_F_letterBy_39 rfl (lv_at hl 2 rfl) ?_
      refine lv_iload_n hx hb d_F_letterBy_40 rfl (lv_at hl 3 rfl) ?_
      refine zz_callVi (As := [.int a0, .int a1]) (rest := [.int (sg_a s1 15 r2.toNatClampNeg), .ref (a 2)]) cx hw (ct_G_placeAt l D cI cZ cL a h) (zz_gV kw_109 kw_111 kw_112 kw_13 kw_110) hd_G_placeAt ⟨rfl, rfl⟩ ⟨Nat.le_of_ble_eq_true rfl, Nat.le_of_ble_eq_true rfl⟩ 1 rfl rfl rfl rfl hl.1 rfl (Nat.le_of_ble_eq_true rfl) d_F_letterBy_41 (fun r6 s5 H locs h hw => ?_)
      refine zz_callVi (As := [.int (sg_a s1 15 r2.toNatClampNeg), .int r6]) (rest := []) cx hw (ct_L_letterOf l D cI cZ cL a h) (zz_gV kw_108 kw_61 kw_62 kw_60 kw_59) hd_L_letterOf ⟨rfl, rfl⟩ ⟨Nat.le_of_ble_eq_true rfl, Nat.le_of_ble_eq_true rfl⟩ 2 rfl rfl rfl rfl hl.1 rfl (Nat.le_of_ble_eq_true rfl) d_F_letterBy_44 (fun r8 s7 H locs h hw => ?_)
      exact zz_reti cx hw d_F_letterBy_47 h
    · replace h := h.1 c4
      refine lv_iconst (v := 0) hx hb d_F_letterBy_23 (by decide) ?_
      exact zz_reti cx hw d_F_letterBy_24 h
set_option maxRecDepth 100000 in
set_option maxHeartbeats 4000000 in
theorem ct_F_letterAt (l : Launch) (D : va_G) (cI cZ cL : ClassId) (a : Nat → Nat) {a0 : Int32} {u : zz_St} {post : Int32 → zz_St → Prop} (h : wp_F_letterAt  a0 u post) : zz_MI l y_F_letterAt (.code y_F_letterAt b_F_letterAt 3 (some .int) :: zz_tbl) (rm_F_letterAt) D zz_cl (zz_ty cI cZ cL) (gw_C cI cZ cL a) [.ref (a 3), .int a0] u post := by
  unfold wp_F_letterAt at h
  refine zz_ofI (by decide) (Nat.le_of_ble_eq_true rfl) ?_
  intro p e s m below meth c A cx hw ls hl
  obtain ⟨hx, hb, hr, hml, hown, hts, hlk, hK, hA⟩ := id cx
  refine lv_aload_n hx hb d_F_letterAt_0 rfl (lv_at hl 0 rfl) ?_
  refine lv_iload_n hx hb d_F_letterAt_1 rfl (lv_at hl 1 rfl) ?_
  refine lv_iconst (v := 0) hx hb d_F_letterAt_2 (by decide) ?_
  refine zz_callVi (As := [.int a0, .int 0]) (rest := []) cx hw (ct_F_letterBy l D cI cZ cL a h) (zz_gV kw_117 kw_120 kw_121 kw_119 kw_118) hd_F_letterBy ⟨rfl, rfl⟩ ⟨Nat.le_of_ble_eq_true rfl, Nat.le_of_ble_eq_true rfl⟩ 3 rfl rfl rfl rfl hl.1 rfl (Nat.le_of_ble_eq_true rfl) d_F_letterAt_3 (fun r2 s1 H locs h hw => ?_)
  refine lv_istore_n (lv' := [(2, .int r2), (0, .ref (a 3)), (1, .int a0)]) hx hb d_F_letterAt_6 rfl hl (by decide) rfl (fun ls hl => ?_)
  refine lv_iload_n hx hb d_F_letterAt_7 rfl (lv_at hl 0 rfl) ?_
  refine lv_if_ne (tgt := 20) hx hb d_F_letterAt_8 (by decide) (fun c3 => ?_) (fun c3 => ?_)
  · replace h := h.2 c3
    refine lv_iload_n hx hb d_F_letterAt_20 rfl (lv_at hl 0 rfl) ?_
    exact zz_reti cx hw d_F_letterAt_21 h
  · replace h := h.1 c3
    refine lv_aload_n hx hb d_F_letterAt_11 rfl (lv_at hl 1 rfl) ?_
    refine lv_iload_n hx hb d_F_letterAt_12 rfl (lv_at hl 2 rfl) ?_
    refine lv_iconst (v := 1) hx hb d_F_letterAt_13 (by decide) ?_
    refine zz_callVi (As := [.int a0, .int 1]) (rest := []) cx hw (ct_F_letterBy l D cI cZ cL a h) (zz_gV kw_117 kw_120 kw_121 kw_119 kw_118) hd_F_letterBy ⟨rfl, rfl⟩ ⟨Nat.le_of_ble_eq_true rfl, Nat.le_of_ble_eq_true rfl⟩ 3 rfl rfl rfl rfl hl.1 rfl (Nat.le_of_ble_eq_true rfl) d_F_letterAt_14 (fun r5 s4 H locs h hw => ?_)
    refine lv_goto (tgt := 21) hx hb d_F_letterAt_17 (by decide) ?_
    exact zz_reti cx hw d_F_letterAt_21 h
set_option maxRecDepth 100000 in
set_option maxHeartbeats 4000000 in
theorem wk_F_agrees_9 {p : Program} {l : Launch} {e : Env} {s : State} {m : MethodId} {args : Array Value} {below : List Frame} {meth : Method} {c : Code} {A : Nat → Prop} {D : va_G} {cI cZ cL : ClassId} {a : Nat → Nat} (cx : zz_Cx p s m args meth c "GridFills$Filling" b_F_agrees 2 (some .boolean) D zz_cl (zz_ty cI cZ cL) A) (post : Int32 → zz_St → Prop) : ∀ (u : zz_St) (H : Heap) (locs : List Loc) (ls : Array Slot), zz_Wd D zz_cl A s.heap H locs (gw_C cI cZ cL a u) → lv_has ls 2 [] → wp_F_agrees_9 post u → W p l e (rm_F_agrees) s m args below meth c H locs 0 0 (MQ below (va_Qi post (zz_B D zz_cl (zz_ty cI cZ cL) (gw_C cI cZ cL a) A) A) args s 0 0 A) (F0 m 9 ls []) := by
  intro u H locs ls hw hl h
  unfold wp_F_agrees_9 at h
  obtain ⟨hx, hb, hr, hml, hown, hts, hlk, hK, hA⟩ := id cx
  refine lv_iconst (v := 1) hx hb d_F_agrees_9 (by decide) ?_
  refine lv_goto (tgt := 14) hx hb d_F_agrees_10 (by decide) ?_
  exact zz_retz cx hw d_F_agrees_14 (by decide) h
set_option maxRecDepth 100000 in
set_option maxHeartbeats 4000000 in
theorem ct_F_agrees (l : Launch) (D : va_G) (cI cZ cL : ClassId) (a : Nat → Nat) {a0 : Int32} {a1 : Int32} {u : zz_St} {post : Int32 → zz_St → Prop} (h : wp_F_agrees  a0 a1 u post) : zz_MI l y_F_agrees (.code y_F_agrees b_F_agrees 2 (some .boolean) :: zz_tbl) (rm_F_agrees) D zz_cl (zz_ty cI cZ cL) (gw_C cI cZ cL a) [.int a0, .int a1] u post := by
  unfold wp_F_agrees at h
  refine zz_ofI (by decide) (Nat.le_of_ble_eq_true rfl) ?_
  intro p e s m below meth c A cx hw ls hl
  obtain ⟨hx, hb, hr, hml, hown, hts, hlk, hK, hA⟩ := id cx
  refine lv_iload_n hx hb d_F_agrees_0 rfl (lv_at hl 0 rfl) ?_
  refine lv_if_eq (tgt := 9) hx hb d_F_agrees_1 (by decide) (fun c1 => ?_) (fun c1 => ?_)
  · replace h := h.1 c1
    exact wk_F_agrees_9 cx post  u _ _ _ hw (lv_sub hl [] rfl) h
  · replace h := h.2 c1
    refine lv_iload_n hx hb d_F_agrees_4 rfl (lv_at hl 0 rfl) ?_
    refine lv_iload_n hx hb d_F_agrees_5 rfl (lv_at hl 1 rfl) ?_
    refine lv_icmp_ne (tgt := 13) hx hb d_F_agrees_6 (by decide) (fun c2 => ?_) (fun c2 => ?_)
    · replace h := h.2 c2
      refine lv_iconst (v := 0) hx hb d_F_agrees_13 (by decide) ?_
      exact zz_retz cx hw d_F_agrees_14 (by decide) h
    · replace h := h.1 c2
      exact wk_F_agrees_9 cx post  u _ _ _ hw (lv_sub hl [] rfl) h
set_option maxRecDepth 100000 in
set_option maxHeartbeats 4000000 in
theorem wk_F_holds_47 {p : Program} {l : Launch} {e : Env} {s : State} {m : MethodId} {args : Array Value} {below : List Frame} {meth : Method} {c : Code} {A : Nat → Prop} {D : va_G} {cI cZ cL : ClassId} {a : Nat → Nat} (cx : zz_Cx p s m args meth c "GridFills$Filling" b_F_holds 6 (some .boolean) D zz_cl (zz_ty cI cZ cL) A) (post : Int32 → zz_St → Prop) {kn47 : Int32 → Int32 → Int32 → zz_St → Prop} (hkn47 : ∀ (x1 : Int32) (x2 : Int32) (x3 : Int32) (u : zz_St) (H : Heap) (locs : List Loc) (ls : Array Slot), zz_Wd D zz_cl A s.heap H locs (gw_C cI cZ cL a u) → lv_has ls 6 [(0, .ref (a 3)), (1, .int x1), (2, .int x2), (3, .int x3)] → kn47 x1 x2 x3 u → W p l e (rm_F_holds) s m args below meth c H locs 0 0 (MQ below (va_Qi post (zz_B D zz_cl (zz_ty cI cZ cL) (gw_C cI cZ cL a) A) A) args s 0 0 A) (F0 m 47 ls [])) : ∀ (x1 : Int32) (x2 : Int32) (x3 : Int32) (u : zz_St) (H : Heap) (locs : List Loc) (ls : Array Slot), zz_Wd D zz_cl A s.heap H locs (gw_C cI cZ cL a u) → lv_has ls 6 [(0, .ref (a 3)), (1, .int x1), (2, .int x2), (3, .int x3)] → wp_F_holds_47 post kn47 x1 x2 x3 u → W p l e (rm_F_holds) s m args below meth c H locs 0 0 (MQ below (va_Qi post (zz_B D zz_cl (zz_ty cI cZ cL) (gw_C cI cZ cL a) A) A) args s 0 0 A) (F0 m 47 ls []) := by
  intro x1 x2 x3 u H locs ls hw hl h
  unfold wp_F_holds_47 at h
  obtain ⟨hx, hb, hr, hml, hown, hts, hlk, hK, hA⟩ := id cx
  refine lv_iload_n hx hb d_F_holds_47 rfl (lv_at hl 3 rfl) ?_
  refine lv_aload_n hx hb d_F_holds_48 rfl (lv_at hl 0 rfl) ?_
  refine zz_get (v2 := .ref (a 1)) cx hw in_F 3 rfl rfl 0 (by decide) kw_104 rfl rfl d_F_holds_49 ?_
  refine zz_get (v2 := .ref (a 8)) cx hw in_G 1 rfl rfl 7 (by decide) kw_124 rfl rfl d_F_holds_52 ?_
  refine lv_iload_n hx hb d_F_holds_55 rfl (lv_at hl 1 rfl) ?_
  obtain ⟨hi, h⟩ := h
  refine zz_iald (f2 := sg_a u 3) cx hw 8 0 rfl rfl hi rfl d_F_holds_56 ?_
  refine lv_icmp_ge (tgt := 128) hx hb d_F_holds_57 (by decide) (fun c4 => ?_) (fun c4 => ?_)
  · replace h := h.1 c4
    refine lv_iconst (v := 1) hx hb d_F_holds_128 (by decide) ?_
    exact zz_retz cx hw d_F_holds_129 (by decide) h
  · replace h := h.2 c4
    refine lv_aload_n hx hb d_F_holds_60 rfl (lv_at hl 0 rfl) ?_
    refine zz_get (v2 := .ref (a 1)) cx hw in_F 3 rfl rfl 0 (by decide) kw_104 rfl rfl d_F_holds_61 ?_
    refine lv_iload_n hx hb d_F_holds_64 rfl (lv_at hl 1 rfl) ?_
    refine lv_iload_n hx hb d_F_holds_65 rfl (lv_at hl 3 rfl) ?_
    refine zz_callVi (As := [.int x1, .int x3]) (rest := []) cx hw (ct_G_cellOf l D cI cZ cL a h) (zz_gV kw_129 kw_19 kw_20 kw_13 kw_18) hd_G_cellOf ⟨rfl, rfl⟩ ⟨Nat.le_of_ble_eq_true rfl, Nat.le_of_ble_eq_true rfl⟩ 1 rfl rfl rfl rfl hl.1 rfl (Nat.le_of_ble_eq_true rfl) d_F_holds_66 (fun r6 s5 H locs h hw => ?_)
    refine lv_istore (lv' := [(4, .int r6), (0, .ref (a 3)), (1, .int x1), (2, .int x2), (3, .int x3)]) hx hb d_F_holds_69 hl (by decide) rfl (fun ls hl => ?_)
    refine lv_aload_n hx hb d_F_holds_71 rfl (lv_at hl 1 rfl) ?_
    refine zz_get (v2 := .ref (a 2)) cx hw in_F 3 rfl rfl 1 (by decide) kw_107 rfl rfl d_F_holds_72 ?_
    refine lv_aload_n hx hb d_F_holds_75 rfl (lv_at hl 1 rfl) ?_
    refine zz_get (v2 := .ref (a 20)) cx hw in_F 3 rfl rfl 2 (by decide) kw_103 rfl rfl d_F_holds_76 ?_
    refine lv_iload_n hx hb d_F_holds_79 rfl (lv_at hl 2 rfl) ?_
    obtain ⟨hi, h⟩ := h
    refine zz_iald (f2 := sg_a s5 15) cx hw 20 0 rfl rfl hi rfl d_F_holds_80 ?_
    refine lv_iload_n hx hb d_F_holds_81 rfl (lv_at hl 4 rfl) ?_
    refine zz_callVi (As := [.int (sg_a s5 15 x1.toNatClampNeg), .int x3]) (rest := []) cx hw (ct_L_letterOf l D cI cZ cL a h) (zz_gV kw_108 kw_61 kw_62 kw_60 kw_59) hd_L_letterOf ⟨rfl, rfl⟩ ⟨Nat.le_of_ble_eq_true rfl, Nat.le_of_ble_eq_true rfl⟩ 2 rfl rfl rfl rfl hl.1 rfl (Nat.le_of_ble_eq_true rfl) d_F_holds_82 (fun r8 s7 H locs h hw => ?_)
    refine lv_istore (lv' := [(5, .int r8), (4, .int r6), (0, .ref (a 3)), (1, .int x1), (2, .int x2), (3, .int x3)]) hx hb d_F_holds_85 hl (by decide) rfl (fun ls hl => ?_)
    refine lv_aload_n hx hb d_F_holds_87 rfl (lv_at hl 2 rfl) ?_
    refine zz_get (v2 := .ref (a 1)) cx hw in_F 3 rfl rfl 0 (by decide) kw_104 rfl rfl d_F_holds_88 ?_
    refine zz_get (v2 := .ref (a 6)) cx hw in_G 1 rfl rfl 4 (by decide) kw_125 rfl rfl d_F_holds_91 ?_
    refine lv_iload hx hb d_F_holds_94 (lv_at hl 1 rfl) ?_
    obtain ⟨hi, h⟩ := h
    refine zz_iald (f2 := sg_a s7 1) cx hw 6 0 rfl rfl hi rfl d_F_holds_96 ?_
    refine lv_iload hx hb d_F_holds_97 (lv_at hl 0 rfl) ?_
    refine zz_callSi (As := [.int (sg_a s7 1 r6.toNatClampNeg), .int r8]) (rest := []) cx hw (ct_F_agrees l D cI cZ cL a h) (zz_gS kw_126 kw_128 kw_119 kw_127) hd_F_agrees ⟨rfl, rfl⟩ ⟨Nat.le_of_ble_eq_true rfl, Nat.le_of_ble_eq_true rfl⟩ rfl hl.1 rfl (Nat.le_of_ble_eq_true rfl) d_F_holds_99 (fun r10 s9 H locs h hw => ?_)
    refine lv_if_eq (tgt := 120) hx hb d_F_holds_102 (by decide) (fun c11 => ?_) (fun c11 => ?_)
    · replace h := h.1 c11
      refine lv_iconst (v := 0) hx hb d_F_holds_120 (by decide) ?_
      exact zz_retz cx hw d_F_holds_121 (by decide) h
    · replace h := h.2 c11
      refine lv_aload_n hx hb d_F_holds_105 rfl (lv_at hl 2 rfl) ?_
      refine lv_iload hx hb d_F_holds_106 (lv_at hl 1 rfl) ?_
      refine lv_iload_n hx hb d_F_holds_108 rfl (lv_at hl 4 rfl) ?_
      refine zz_callVi (As := [.int r6, .int x2]) (rest := []) cx hw (ct_F_letterBy l D cI cZ cL a h) (zz_gV kw_117 kw_120 kw_121 kw_119 kw_118) hd_F_letterBy ⟨rfl, rfl⟩ ⟨Nat.le_of_ble_eq_true rfl, Nat.le_of_ble_eq_true rfl⟩ 3 rfl rfl rfl rfl hl.1 rfl (Nat.le_of_ble_eq_true rfl) d_F_holds_109 (fun r13 s12 H locs h hw => ?_)
      refine lv_iload hx hb d_F_holds_112 (lv_at hl 0 rfl) ?_
      refine zz_callSi (As := [.int r13, .int r8]) (rest := []) cx hw (ct_F_agrees l D cI cZ cL a h) (zz_gS kw_126 kw_128 kw_119 kw_127) hd_F_agrees ⟨rfl, rfl⟩ ⟨Nat.le_of_ble_eq_true rfl, Nat.le_of_ble_eq_true rfl⟩ rfl hl.1 rfl (Nat.le_of_ble_eq_true rfl) d_F_holds_114 (fun r15 s14 H locs h hw => ?_)
      refine lv_if_ne (tgt := 122) hx hb d_F_holds_117 (by decide) (fun c16 => ?_) (fun c16 => ?_)
      · replace h := h.2 c16
        refine lv_iinc (v := x3 + 1) (lv' := [(3, .int (x3 + 1)), (5, .int r8), (4, .int r6), (0, .ref (a 3)), (1, .int x1), (2, .int x2)]) hx hb d_F_holds_122 hl (k := 5) rfl rfl (by decide) rfl (fun ls hl => ?_)
        refine lv_goto (tgt := 47) hx hb d_F_holds_125 (by decide) ?_
        exact hkn47 x1 x2 (x3 + 1) s14 _ _ _ hw (lv_sub hl [3, 4, 5, 0] rfl) h
      · replace h := h.1 c16
        refine lv_iconst (v := 0) hx hb d_F_holds_120 (by decide) ?_
        exact zz_retz cx hw d_F_holds_121 (by decide) h
set_option maxRecDepth 100000 in
set_option maxHeartbeats 4000000 in
theorem wk_F_holds_47_f {p : Program} {l : Launch} {e : Env} {s : State} {m : MethodId} {args : Array Value} {below : List Frame} {meth : Method} {c : Code} {A : Nat → Prop} {D : va_G} {cI cZ cL : ClassId} {a : Nat → Nat} (cx : zz_Cx p s m args meth c "GridFills$Filling" b_F_holds 6 (some .boolean) D zz_cl (zz_ty cI cZ cL) A) (post : Int32 → zz_St → Prop) : ∀ n : Nat, ∀ (x1 : Int32) (x2 : Int32) (x3 : Int32) (u : zz_St) (H : Heap) (locs : List Loc) (ls : Array Slot), zz_Wd D zz_cl A s.heap H locs (gw_C cI cZ cL a u) → lv_has ls 6 [(0, .ref (a 3)), (1, .int x1), (2, .int x2), (3, .int x3)] → wp_F_holds_47_f post n x1 x2 x3 u → W p l e (rm_F_holds) s m args below meth c H locs 0 0 (MQ below (va_Qi post (zz_B D zz_cl (zz_ty cI cZ cL) (gw_C cI cZ cL a) A) A) args s 0 0 A) (F0 m 47 ls []) := by
  intro n
  induction n with
  | zero => exact fun _ _ _ _ _ _ _ _ _ h => False.elim h
  | succ n ih => exact wk_F_holds_47 cx post ih
set_option maxRecDepth 100000 in
set_option maxHeartbeats 4000000 in
theorem wk_F_holds_33 {p : Program} {l : Launch} {e : Env} {s : State} {m : MethodId} {args : Array Value} {below : List Frame} {meth : Method} {c : Code} {A : Nat → Prop} {D : va_G} {cI cZ cL : ClassId} {a : Nat → Nat} (cx : zz_Cx p s m args meth c "GridFills$Filling" b_F_holds 6 (some .boolean) D zz_cl (zz_ty cI cZ cL) A) (post : Int32 → zz_St → Prop) : ∀ (x1 : Int32) (u : zz_St) (H : Heap) (locs : List Loc) (ls : Array Slot), zz_Wd D zz_cl A s.heap H locs (gw_C cI cZ cL a u) → lv_has ls 6 [(0, .ref (a 3)), (1, .int x1)] → wp_F_holds_33 post x1 u → W p l e (rm_F_holds) s m args below meth c H locs 0 0 (MQ below (va_Qi post (zz_B D zz_cl (zz_ty cI cZ cL) (gw_C cI cZ cL a) A) A) args s 0 0 A) (F0 m 33 ls []) := by
  intro x1 u H locs ls hw hl h
  unfold wp_F_holds_33 at h
  obtain ⟨hx, hb, hr, hml, hown, hts, hlk, hK, hA⟩ := id cx
  refine lv_iconst (v := 1) hx hb d_F_holds_33 (by decide) ?_
  refine lv_aload_n hx hb d_F_holds_34 rfl (lv_at hl 0 rfl) ?_
  refine zz_get (v2 := .ref (a 1)) cx hw in_F 3 rfl rfl 0 (by decide) kw_104 rfl rfl d_F_holds_35 ?_
  refine zz_get (v2 := .ref (a 9)) cx hw in_G 1 rfl rfl 8 (by decide) kw_123 rfl rfl d_F_holds_38 ?_
  refine lv_iload_n hx hb d_F_holds_41 rfl (lv_at hl 1 rfl) ?_
  obtain ⟨hi, h⟩ := h
  refine zz_iald (f2 := sg_a u 4) cx hw 9 0 rfl rfl hi rfl d_F_holds_42 ?_
  refine lv_isub hx hb d_F_holds_43 ?_
  refine lv_topi (fun v3 ev3 => ?_)
  replace h := h v3 ev3
  refine lv_istore_n (lv' := [(2, .int v3), (0, .ref (a 3)), (1, .int x1)]) hx hb d_F_holds_44 rfl hl (by decide) rfl (fun ls hl => ?_)
  refine lv_iconst (v := 0) hx hb d_F_holds_45 (by decide) ?_
  refine lv_istore_n (lv' := [(3, .int 0), (2, .int v3), (0, .ref (a 3)), (1, .int x1)]) hx hb d_F_holds_46 rfl hl (by decide) rfl (fun ls hl => ?_)
  obtain ⟨n, h⟩ := h
  exact wk_F_holds_47_f cx post  n x1 v3 0 u _ _ _ hw (lv_sub hl [2, 3, 1, 0] rfl) h
set_option maxRecDepth 100000 in
set_option maxHeartbeats 4000000 in
theorem ct_F_holds (l : Launch) (D : va_G) (cI cZ cL : ClassId) (a : Nat → Nat) {a0 : Int32} {u : zz_St} {post : Int32 → zz_St → Prop} (h : wp_F_holds  a0 u post) : zz_MI l y_F_holds (.code y_F_holds b_F_holds 6 (some .boolean) :: zz_tbl) (rm_F_holds) D zz_cl (zz_ty cI cZ cL) (gw_C cI cZ cL a) [.ref (a 3), .int a0] u post := by
  unfold wp_F_holds at h
  refine zz_ofI (by decide) (Nat.le_of_ble_eq_true rfl) ?_
  intro p e s m below meth c A cx hw ls hl
  obtain ⟨hx, hb, hr, hml, hown, hts, hlk, hK, hA⟩ := id cx
  refine lv_aload_n hx hb d_F_holds_0 rfl (lv_at hl 0 rfl) ?_
  refine zz_get (v2 := .ref (a 1)) cx hw in_F 3 rfl rfl 0 (by decide) kw_104 rfl rfl d_F_holds_1 ?_
  refine zz_get (v2 := .ref (a 10)) cx hw in_G 1 rfl rfl 9 (by decide) kw_122 rfl rfl d_F_holds_4 ?_
  refine lv_iload_n hx hb d_F_holds_7 rfl (lv_at hl 1 rfl) ?_
  obtain ⟨hi, h⟩ := h
  refine zz_iald (f2 := sg_a u 5) cx hw 10 0 rfl rfl hi rfl d_F_holds_8 ?_
  refine lv_iconst (v := (-1)) hx hb d_F_holds_9 (by decide) ?_
  refine lv_icmp_eq (tgt := 33) hx hb d_F_holds_10 (by decide) (fun c1 => ?_) (fun c1 => ?_)
  · replace h := h.1 c1
    exact wk_F_holds_33 cx post  a0 u _ _ _ hw (lv_sub hl [0, 1] rfl) h
  · replace h := h.2 c1
    refine lv_aload_n hx hb d_F_holds_13 rfl (lv_at hl 0 rfl) ?_
    refine zz_get (v2 := .ref (a 1)) cx hw in_F 3 rfl rfl 0 (by decide) kw_104 rfl rfl d_F_holds_14 ?_
    refine zz_get (v2 := .ref (a 10)) cx hw in_G 1 rfl rfl 9 (by decide) kw_122 rfl rfl d_F_holds_17 ?_
    refine lv_iload_n hx hb d_F_holds_20 rfl (lv_at hl 1 rfl) ?_
    obtain ⟨hi, h⟩ := h
    refine zz_iald (f2 := sg_a u 5) cx hw 10 0 rfl rfl hi rfl d_F_holds_21 ?_
    refine lv_aload_n hx hb d_F_holds_22 rfl (lv_at hl 0 rfl) ?_
    refine zz_get (v2 := .ref (a 20)) cx hw in_F 3 rfl rfl 2 (by decide) kw_103 rfl rfl d_F_holds_23 ?_
    refine lv_iload_n hx hb d_F_holds_26 rfl (lv_at hl 1 rfl) ?_
    obtain ⟨hi, h⟩ := h
    refine zz_iald (f2 := sg_a u 15) cx hw 20 0 rfl rfl hi rfl d_F_holds_27 ?_
    refine lv_icmp_eq (tgt := 33) hx hb d_F_holds_28 (by decide) (fun c2 => ?_) (fun c2 => ?_)
    · replace h := h.1 c2
      exact wk_F_holds_33 cx post  a0 u _ _ _ hw (lv_sub hl [0, 1] rfl) h
    · replace h := h.2 c2
      refine lv_iconst (v := 0) hx hb d_F_holds_31 (by decide) ?_
      exact zz_retz cx hw d_F_holds_32 (by decide) h
set_option maxRecDepth 100000 in
set_option maxHeartbeats 4000000 in
theorem wk_F_firstFault_12 {p : Program} {l : Launch} {e : Env} {s : State} {m : MethodId} {args : Array Value} {below : List Frame} {meth : Method} {c : Code} {A : Nat → Prop} {D : va_G} {cI cZ cL : ClassId} {a : Nat → Nat} (cx : zz_Cx p s m args meth c "GridFills$Filling" b_F_firstFault 2 (some .int) D zz_cl (zz_ty cI cZ cL) A) (post : Int32 → zz_St → Prop) {kn12 : Int32 → zz_St → Prop} (hkn12 : ∀ (x1 : Int32) (u : zz_St) (H : Heap) (locs : List Loc) (ls : Array Slot), zz_Wd D zz_cl A s.heap H locs (gw_C cI cZ cL a u) → lv_has ls 2 [(0, .ref (a 3)), (1, .int x1)] → kn12 x1 u → W p l e (rm_F_firstFault) s m args below meth c H locs 0 0 (MQ below (va_Qi post (zz_B D zz_cl (zz_ty cI cZ cL) (gw_C cI cZ cL a) A) A) args s 0 0 A) (F0 m 12 ls [])) : ∀ (x1 : Int32) (u : zz_St) (H : Heap) (locs : List Loc) (ls : Array Slot), zz_Wd D zz_cl A s.heap H locs (gw_C cI cZ cL a u) → lv_has ls 2 [(0, .ref (a 3)), (1, .int x1)] → wp_F_firstFault_12 post kn12 x1 u → W p l e (rm_F_firstFault) s m args below meth c H locs 0 0 (MQ below (va_Qi post (zz_B D zz_cl (zz_ty cI cZ cL) (gw_C cI cZ cL a) A) A) args s 0 0 A) (F0 m 12 ls []) := by
  intro x1 u H locs ls hw hl h
  unfold wp_F_firstFault_12 at h
  obtain ⟨hx, hb, hr, hml, hown, hts, hlk, hK, hA⟩ := id cx
  refine lv_iload_n hx hb d_F_firstFault_12 rfl (lv_at hl 1 rfl) ?_
  refine lv_aload_n hx hb d_F_firstFault_13 rfl (lv_at hl 0 rfl) ?_
  refine zz_get (v2 := .ref (a 1)) cx hw in_F 3 rfl rfl 0 (by decide) kw_104 rfl rfl d_F_firstFault_14 ?_
  refine zz_get (v2 := .int (sg_i u 3)) cx hw in_G 1 rfl rfl 5 (by decide) kw_105 rfl rfl d_F_firstFault_17 ?_
  refine lv_icmp_ge (tgt := 41) hx hb d_F_firstFault_20 (by decide) (fun c2 => ?_) (fun c2 => ?_)
  · replace h := h.1 c2
    refine lv_iconst (v := 0) hx hb d_F_firstFault_41 (by decide) ?_
    exact zz_reti cx hw d_F_firstFault_42 h
  · replace h := h.2 c2
    refine lv_aload_n hx hb d_F_firstFault_23 rfl (lv_at hl 0 rfl) ?_
    refine lv_iload_n hx hb d_F_firstFault_24 rfl (lv_at hl 1 rfl) ?_
    refine zz_callVi (As := [.int x1]) (rest := []) cx hw (ct_F_holds l D cI cZ cL a h) (zz_gV kw_130 kw_132 kw_133 kw_119 kw_131) hd_F_holds ⟨rfl, rfl⟩ ⟨Nat.le_of_ble_eq_true rfl, Nat.le_of_ble_eq_true rfl⟩ 3 rfl rfl rfl rfl hl.1 rfl (Nat.le_of_ble_eq_true rfl) d_F_firstFault_25 (fun r4 s3 H locs h hw => ?_)
    refine lv_if_ne (tgt := 35) hx hb d_F_firstFault_28 (by decide) (fun c5 => ?_) (fun c5 => ?_)
    · replace h := h.2 c5
      refine lv_iinc (v := x1 + 1) (lv' := [(1, .int (x1 + 1)), (0, .ref (a 3))]) hx hb d_F_firstFault_35 hl (k := 1) rfl rfl (by decide) rfl (fun ls hl => ?_)
      refine lv_goto (tgt := 12) hx hb d_F_firstFault_38 (by decide) ?_
      exact hkn12 (x1 + 1) s3 _ _ _ hw (lv_sub hl [1, 0] rfl) h
    · replace h := h.1 c5
      refine lv_iconst (v := 1) hx hb d_F_firstFault_31 (by decide) ?_
      refine lv_iload_n hx hb d_F_firstFault_32 rfl (lv_at hl 1 rfl) ?_
      refine lv_iadd hx hb d_F_firstFault_33 ?_
      exact zz_reti cx hw d_F_firstFault_34 h
set_option maxRecDepth 100000 in
set_option maxHeartbeats 4000000 in
theorem wk_F_firstFault_12_f {p : Program} {l : Launch} {e : Env} {s : State} {m : MethodId} {args : Array Value} {below : List Frame} {meth : Method} {c : Code} {A : Nat → Prop} {D : va_G} {cI cZ cL : ClassId} {a : Nat → Nat} (cx : zz_Cx p s m args meth c "GridFills$Filling" b_F_firstFault 2 (some .int) D zz_cl (zz_ty cI cZ cL) A) (post : Int32 → zz_St → Prop) : ∀ n : Nat, ∀ (x1 : Int32) (u : zz_St) (H : Heap) (locs : List Loc) (ls : Array Slot), zz_Wd D zz_cl A s.heap H locs (gw_C cI cZ cL a u) → lv_has ls 2 [(0, .ref (a 3)), (1, .int x1)] → wp_F_firstFault_12_f post n x1 u → W p l e (rm_F_firstFault) s m args below meth c H locs 0 0 (MQ below (va_Qi post (zz_B D zz_cl (zz_ty cI cZ cL) (gw_C cI cZ cL a) A) A) args s 0 0 A) (F0 m 12 ls []) := by
  intro n
  induction n with
  | zero => exact fun _ _ _ _ _ _ _ h => False.elim h
  | succ n ih => exact wk_F_firstFault_12 cx post ih
set_option maxRecDepth 100000 in
set_option maxHeartbeats 4000000 in
theorem ct_F_firstFault (l : Launch) (D : va_G) (cI cZ cL : ClassId) (a : Nat → Nat) {u : zz_St} {post : Int32 → zz_St → Prop} (h : wp_F_firstFault  u post) : zz_MI l y_F_firstFault (.code y_F_firstFault b_F_firstFault 2 (some .int) :: zz_tbl) (rm_F_firstFault) D zz_cl (zz_ty cI cZ cL) (gw_C cI cZ cL a) [.ref (a 3)] u post := by
  unfold wp_F_firstFault at h
  refine zz_ofI (by decide) (Nat.le_of_ble_eq_true rfl) ?_
  intro p e s m below meth c A cx hw ls hl
  obtain ⟨hx, hb, hr, hml, hown, hts, hlk, hK, hA⟩ := id cx
  refine lv_aload_n hx hb d_F_firstFault_0 rfl (lv_at hl 0 rfl) ?_
  refine zz_get (v2 := .int (sg_i u 6)) cx hw in_F 3 rfl rfl 3 (by decide) kw_102 rfl rfl d_F_firstFault_1 ?_
  refine lv_iconst (v := (-1)) hx hb d_F_firstFault_4 (by decide) ?_
  refine lv_icmp_ne (tgt := 10) hx hb d_F_firstFault_5 (by decide) (fun c1 => ?_) (fun c1 => ?_)
  · replace h := h.2 c1
    refine lv_iconst (v := 0) hx hb d_F_firstFault_10 (by decide) ?_
    refine lv_istore_n (lv' := [(1, .int 0), (0, .ref (a 3))]) hx hb d_F_firstFault_11 rfl hl (by decide) rfl (fun ls hl => ?_)
    obtain ⟨n, h⟩ := h
    exact wk_F_firstFault_12_f cx post  n 0 u _ _ _ hw (lv_sub hl [1, 0] rfl) h
  · replace h := h.1 c1
    refine lv_iconst (v := (-1)) hx hb d_F_firstFault_8 (by decide) ?_
    exact zz_reti cx hw d_F_firstFault_9 h
