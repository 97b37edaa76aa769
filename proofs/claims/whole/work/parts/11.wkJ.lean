set_option maxRecDepth 100000 in
set_option maxHeartbeats 4000000 in
theorem ct_JL_bitCount (l : Launch) (D : va_G) (cI cZ cL : ClassId) (a : Nat → Nat) {a0 : Int64} {u : zz_St} {post : Int32 → zz_St → Prop} (h : wp_JL_bitCount  a0 u post) : zz_MI l y_JL_bitCount (.code y_JL_bitCount b_JL_bitCount 2 (some .int) :: zz_tbl) (rm_JL_bitCount) D zz_cl (zz_ty cI cZ cL) (gw_C cI cZ cL a) [.long a0] u post := by
  unfold wp_JL_bitCount at h
  refine zz_ofI (by decide) (Nat.le_of_ble_eq_true rfl) ?_
  intro p e s m below meth c A cx hw ls hl
  obtain ⟨hx, hb, hr, hml, hown, hts, hlk, hK, hA⟩ := id cx
  refine lv_lload_n hx hb d_JL_bitCount_0 rfl (lv_at hl 0 rfl) ?_
  refine lv_lload_n hx hb d_JL_bitCount_1 rfl (lv_at hl 0 rfl) ?_
  refine lv_iconst (v := 1) hx hb d_JL_bitCount_2 (by decide) ?_
  refine lv_lushr hx hb d_JL_bitCount_3 rfl ?_
  refine lv_ldc2 (v := 6148914691236517205) hx hb hown (hts _ kw_0) d_JL_bitCount_4 ?_
  refine lv_land hx hb d_JL_bitCount_7 ?_
  refine lv_lsub hx hb d_JL_bitCount_8 ?_
  refine lv_topl (fun v1 ev1 => ?_)
  replace h := h v1 ev1
  refine lv_lstore_n (lv' := [(0, .long v1)]) hx hb d_JL_bitCount_9 rfl hl (by decide) rfl (fun ls hl => ?_)
  refine lv_lload_n hx hb d_JL_bitCount_10 rfl (lv_at hl 0 rfl) ?_
  refine lv_ldc2 (v := 3689348814741910323) hx hb hown (hts _ kw_1) d_JL_bitCount_11 ?_
  refine lv_land hx hb d_JL_bitCount_14 ?_
  refine lv_lload_n hx hb d_JL_bitCount_15 rfl (lv_at hl 0 rfl) ?_
  refine lv_iconst (v := 2) hx hb d_JL_bitCount_16 (by decide) ?_
  refine lv_lushr hx hb d_JL_bitCount_17 rfl ?_
  refine lv_ldc2 (v := 3689348814741910323) hx hb hown (hts _ kw_1) d_JL_bitCount_18 ?_
  refine lv_land hx hb d_JL_bitCount_21 ?_
  refine lv_ladd hx hb d_JL_bitCount_22 ?_
  refine lv_topl (fun v2 ev2 => ?_)
  replace h := h v2 ev2
  refine lv_lstore_n (lv' := [(0, .long v2)]) hx hb d_JL_bitCount_23 rfl hl (by decide) rfl (fun ls hl => ?_)
  refine lv_lload_n hx hb d_JL_bitCount_24 rfl (lv_at hl 0 rfl) ?_
  refine lv_lload_n hx hb d_JL_bitCount_25 rfl (lv_at hl 0 rfl) ?_
  refine lv_iconst (v := 4) hx hb d_JL_bitCount_26 (by decide) ?_
  refine lv_lushr hx hb d_JL_bitCount_27 rfl ?_
  refine lv_ladd hx hb d_JL_bitCount_28 ?_
  refine lv_ldc2 (v := 1085102592571150095) hx hb hown (hts _ kw_2) d_JL_bitCount_29 ?_
  refine lv_land hx hb d_JL_bitCount_32 ?_
  refine lv_topl (fun v3 ev3 => ?_)
  replace h := h v3 ev3
  refine lv_lstore_n (lv' := [(0, .long v3)]) hx hb d_JL_bitCount_33 rfl hl (by decide) rfl (fun ls hl => ?_)
  refine lv_lload_n hx hb d_JL_bitCount_34 rfl (lv_at hl 0 rfl) ?_
  refine lv_lload_n hx hb d_JL_bitCount_35 rfl (lv_at hl 0 rfl) ?_
  refine lv_bipush (v := 8) hx hb d_JL_bitCount_36 (by decide) ?_
  refine lv_lushr hx hb d_JL_bitCount_38 rfl ?_
  refine lv_ladd hx hb d_JL_bitCount_39 ?_
  refine lv_topl (fun v4 ev4 => ?_)
  replace h := h v4 ev4
  refine lv_lstore_n (lv' := [(0, .long v4)]) hx hb d_JL_bitCount_40 rfl hl (by decide) rfl (fun ls hl => ?_)
  refine lv_lload_n hx hb d_JL_bitCount_41 rfl (lv_at hl 0 rfl) ?_
  refine lv_lload_n hx hb d_JL_bitCount_42 rfl (lv_at hl 0 rfl) ?_
  refine lv_bipush (v := 16) hx hb d_JL_bitCount_43 (by decide) ?_
  refine lv_lushr hx hb d_JL_bitCount_45 rfl ?_
  refine lv_ladd hx hb d_JL_bitCount_46 ?_
  refine lv_topl (fun v5 ev5 => ?_)
  replace h := h v5 ev5
  refine lv_lstore_n (lv' := [(0, .long v5)]) hx hb d_JL_bitCount_47 rfl hl (by decide) rfl (fun ls hl => ?_)
  refine lv_lload_n hx hb d_JL_bitCount_48 rfl (lv_at hl 0 rfl) ?_
  refine lv_lload_n hx hb d_JL_bitCount_49 rfl (lv_at hl 0 rfl) ?_
  refine lv_bipush (v := 32) hx hb d_JL_bitCount_50 (by decide) ?_
  refine lv_lushr hx hb d_JL_bitCount_52 rfl ?_
  refine lv_ladd hx hb d_JL_bitCount_53 ?_
  refine lv_topl (fun v6 ev6 => ?_)
  replace h := h v6 ev6
  refine lv_lstore_n (lv' := [(0, .long v6)]) hx hb d_JL_bitCount_54 rfl hl (by decide) rfl (fun ls hl => ?_)
  refine lv_lload_n hx hb d_JL_bitCount_55 rfl (lv_at hl 0 rfl) ?_
  refine lv_l2i hx hb d_JL_bitCount_56 rfl ?_
  refine lv_bipush (v := 127) hx hb d_JL_bitCount_57 (by decide) ?_
  refine lv_iand hx hb d_JL_bitCount_59 ?_
  exact zz_reti cx hw d_JL_bitCount_60 h
set_option maxRecDepth 100000 in
set_option maxHeartbeats 4000000 in
theorem wk_JA_fillI_GthemeOf_5 {p : Program} {l : Launch} {e : Env} {s : State} {m : MethodId} {args : Array Value} {below : List Frame} {meth : Method} {c : Code} {A : Nat → Prop} {D : va_G} {cI cZ cL : ClassId} {a : Nat → Nat} (cx : zz_Cx p s m args meth c "java/util/Arrays" b_JA_fillI 4 none D zz_cl (zz_ty cI cZ cL) A) (post : zz_St → Prop) {kn5 : Int32 → Int32 → Int32 → zz_St → Prop} (hkn5 : ∀ (x1 : Int32) (x2 : Int32) (x3 : Int32) (u : zz_St) (H : Heap) (locs : List Loc) (ls : Array Slot), zz_Wd D zz_cl A s.heap H locs (gw_C cI cZ cL a u) → lv_has ls 4 [(0, .ref (a 10)), (1, .int x1), (2, .int x2), (3, .int x3)] → kn5 x1 x2 x3 u → W p l e (rm_JA_fillI_GthemeOf) s m args below meth c H locs 0 0 (MQ below (va_Qv post (zz_B D zz_cl (zz_ty cI cZ cL) (gw_C cI cZ cL a) A) A) args s 0 0 A) (F0 m 5 ls [])) : ∀ (x1 : Int32) (x2 : Int32) (x3 : Int32) (u : zz_St) (H : Heap) (locs : List Loc) (ls : Array Slot), zz_Wd D zz_cl A s.heap H locs (gw_C cI cZ cL a u) → lv_has ls 4 [(0, .ref (a 10)), (1, .int x1), (2, .int x2), (3, .int x3)] → wp_JA_fillI_GthemeOf_5 post kn5 x1 x2 x3 u → W p l e (rm_JA_fillI_GthemeOf) s m args below meth c H locs 0 0 (MQ below (va_Qv post (zz_B D zz_cl (zz_ty cI cZ cL) (gw_C cI cZ cL a) A) A) args s 0 0 A) (F0 m 5 ls []) := by
  intro x1 x2 x3 u H locs ls hw hl h
  unfold wp_JA_fillI_GthemeOf_5 at h
  obtain ⟨hx, hb, hr, hml, hown, hts, hlk, hK, hA⟩ := id cx
  refine lv_iload_n hx hb d_JA_fillI_5 rfl (lv_at hl 2 rfl) ?_
  refine lv_iload_n hx hb d_JA_fillI_6 rfl (lv_at hl 3 rfl) ?_
  refine lv_icmp_ge (tgt := 20) hx hb d_JA_fillI_7 (by decide) (fun c1 => ?_) (fun c1 => ?_)
  · replace h := h.1 c1
    exact zz_retv cx hw d_JA_fillI_20 h
  · replace h := h.2 c1
    refine lv_aload_n hx hb d_JA_fillI_10 rfl (lv_at hl 0 rfl) ?_
    refine lv_iload_n hx hb d_JA_fillI_11 rfl (lv_at hl 2 rfl) ?_
    refine lv_iload_n hx hb d_JA_fillI_12 rfl (lv_at hl 1 rfl) ?_
    obtain ⟨hi, h⟩ := h
    refine zz_iast (ws' := gw_C cI cZ cL a (ss_a u 5 (upd (sg_a u 5) x2.toNatClampNeg x1))) cx hw 10 0 rfl rfl hi rfl (gw_C_a5 _ _ _ _ _ _) d_JA_fillI_13 (fun H locs hw => ?_)
    refine lv_iinc (v := x2 + 1) (lv' := [(2, .int (x2 + 1)), (0, .ref (a 10)), (1, .int x1), (3, .int x3)]) hx hb d_JA_fillI_14 hl (k := 2) rfl rfl (by decide) rfl (fun ls hl => ?_)
    refine lv_goto (tgt := 5) hx hb d_JA_fillI_17 (by decide) ?_
    exact hkn5 x1 (x2 + 1) x3 (ss_a u 5 (upd (sg_a u 5) x2.toNatClampNeg x1)) _ _ _ hw (lv_sub hl [1, 2, 0, 3] rfl) h
set_option maxRecDepth 100000 in
set_option maxHeartbeats 4000000 in
theorem wk_JA_fillI_GthemeOf_5_f {p : Program} {l : Launch} {e : Env} {s : State} {m : MethodId} {args : Array Value} {below : List Frame} {meth : Method} {c : Code} {A : Nat → Prop} {D : va_G} {cI cZ cL : ClassId} {a : Nat → Nat} (cx : zz_Cx p s m args meth c "java/util/Arrays" b_JA_fillI 4 none D zz_cl (zz_ty cI cZ cL) A) (post : zz_St → Prop) : ∀ n : Nat, ∀ (x1 : Int32) (x2 : Int32) (x3 : Int32) (u : zz_St) (H : Heap) (locs : List Loc) (ls : Array Slot), zz_Wd D zz_cl A s.heap H locs (gw_C cI cZ cL a u) → lv_has ls 4 [(0, .ref (a 10)), (1, .int x1), (2, .int x2), (3, .int x3)] → wp_JA_fillI_GthemeOf_5_f post n x1 x2 x3 u → W p l e (rm_JA_fillI_GthemeOf) s m args below meth c H locs 0 0 (MQ below (va_Qv post (zz_B D zz_cl (zz_ty cI cZ cL) (gw_C cI cZ cL a) A) A) args s 0 0 A) (F0 m 5 ls []) := by
  intro n
  induction n with
  | zero => exact fun _ _ _ _ _ _ _ _ _ h => False.elim h
  | succ n ih => exact wk_JA_fillI_GthemeOf_5 cx post ih
set_option maxRecDepth 100000 in
set_option maxHeartbeats 4000000 in
theorem ct_JA_fillI_GthemeOf (l : Launch) (D : va_G) (cI cZ cL : ClassId) (a : Nat → Nat) {a1 : Int32} {u : zz_St} {post : zz_St → Prop} (h : wp_JA_fillI_GthemeOf  a1 u post) : zz_MV l y_JA_fillI (.code y_JA_fillI b_JA_fillI 4 none :: zz_tbl) (rm_JA_fillI_GthemeOf) D zz_cl (zz_ty cI cZ cL) (gw_C cI cZ cL a) [.ref (a 10), .int a1] u post := by
  unfold wp_JA_fillI_GthemeOf at h
  refine zz_ofV (by decide) (Nat.le_of_ble_eq_true rfl) ?_
  intro p e s m below meth c A cx hw ls hl
  obtain ⟨hx, hb, hr, hml, hown, hts, hlk, hK, hA⟩ := id cx
  refine lv_iconst (v := 0) hx hb d_JA_fillI_0 (by decide) ?_
  refine lv_istore_n (lv' := [(2, .int 0), (0, .ref (a 10)), (1, .int a1)]) hx hb d_JA_fillI_1 rfl hl (by decide) rfl (fun ls hl => ?_)
  refine lv_aload_n hx hb d_JA_fillI_2 rfl (lv_at hl 1 rfl) ?_
  refine va_alen (v := 24) hx hb hK hw.1 10 0 rfl rfl rfl d_JA_fillI_3 ?_
  refine lv_istore_n (lv' := [(3, .int 24), (2, .int 0), (0, .ref (a 10)), (1, .int a1)]) hx hb d_JA_fillI_4 rfl hl (by decide) rfl (fun ls hl => ?_)
  obtain ⟨n, h⟩ := h
  exact wk_JA_fillI_GthemeOf_5_f cx post  n a1 0 24 u _ _ _ hw (lv_sub hl [2, 3, 1, 0] rfl) h
set_option maxRecDepth 100000 in
set_option maxHeartbeats 4000000 in
theorem wk_JA_fillI_GslotThrough_5 {p : Program} {l : Launch} {e : Env} {s : State} {m : MethodId} {args : Array Value} {below : List Frame} {meth : Method} {c : Code} {A : Nat → Prop} {D : va_G} {cI cZ cL : ClassId} {a : Nat → Nat} (cx : zz_Cx p s m args meth c "java/util/Arrays" b_JA_fillI 4 none D zz_cl (zz_ty cI cZ cL) A) (post : zz_St → Prop) {kn5 : Int32 → Int32 → Int32 → zz_St → Prop} (hkn5 : ∀ (x1 : Int32) (x2 : Int32) (x3 : Int32) (u : zz_St) (H : Heap) (locs : List Loc) (ls : Array Slot), zz_Wd D zz_cl A s.heap H locs (gw_C cI cZ cL a u) → lv_has ls 4 [(0, .ref (a 11)), (1, .int x1), (2, .int x2), (3, .int x3)] → kn5 x1 x2 x3 u → W p l e (rm_JA_fillI_GslotThrough) s m args below meth c H locs 0 0 (MQ below (va_Qv post (zz_B D zz_cl (zz_ty cI cZ cL) (gw_C cI cZ cL a) A) A) args s 0 0 A) (F0 m 5 ls [])) : ∀ (x1 : Int32) (x2 : Int32) (x3 : Int32) (u : zz_St) (H : Heap) (locs : List Loc) (ls : Array Slot), zz_Wd D zz_cl A s.heap H locs (gw_C cI cZ cL a u) → lv_has ls 4 [(0, .ref (a 11)), (1, .int x1), (2, .int x2), (3, .int x3)] → wp_JA_fillI_GslotThrough_5 post kn5 x1 x2 x3 u → W p l e (rm_JA_fillI_GslotThrough) s m args below meth c H locs 0 0 (MQ below (va_Qv post (zz_B D zz_cl (zz_ty cI cZ cL) (gw_C cI cZ cL a) A) A) args s 0 0 A) (F0 m 5 ls []) := by
  intro x1 x2 x3 u H locs ls hw hl h
  unfold wp_JA_fillI_GslotThrough_5 at h
  obtain ⟨hx, hb, hr, hml, hown, hts, hlk, hK, hA⟩ := id cx
  refine lv_iload_n hx hb d_JA_fillI_5 rfl (lv_at hl 2 rfl) ?_
  refine lv_iload_n hx hb d_JA_fillI_6 rfl (lv_at hl 3 rfl) ?_
  refine lv_icmp_ge (tgt := 20) hx hb d_JA_fillI_7 (by decide) (fun c1 => ?_) (fun c1 => ?_)
  · replace h := h.1 c1
    exact zz_retv cx hw d_JA_fillI_20 h
  · replace h := h.2 c1
    refine lv_aload_n hx hb d_JA_fillI_10 rfl (lv_at hl 0 rfl) ?_
    refine lv_iload_n hx hb d_JA_fillI_11 rfl (lv_at hl 2 rfl) ?_
    refine lv_iload_n hx hb d_JA_fillI_12 rfl (lv_at hl 1 rfl) ?_
    obtain ⟨hi, h⟩ := h
    refine zz_iast (ws' := gw_C cI cZ cL a (ss_a u 6 (upd (sg_a u 6) x2.toNatClampNeg x1))) cx hw 11 0 rfl rfl hi rfl (gw_C_a6 _ _ _ _ _ _) d_JA_fillI_13 (fun H locs hw => ?_)
    refine lv_iinc (v := x2 + 1) (lv' := [(2, .int (x2 + 1)), (0, .ref (a 11)), (1, .int x1), (3, .int x3)]) hx hb d_JA_fillI_14 hl (k := 2) rfl rfl (by decide) rfl (fun ls hl => ?_)
    refine lv_goto (tgt := 5) hx hb d_JA_fillI_17 (by decide) ?_
    exact hkn5 x1 (x2 + 1) x3 (ss_a u 6 (upd (sg_a u 6) x2.toNatClampNeg x1)) _ _ _ hw (lv_sub hl [1, 2, 0, 3] rfl) h
set_option maxRecDepth 100000 in
set_option maxHeartbeats 4000000 in
theorem wk_JA_fillI_GslotThrough_5_f {p : Program} {l : Launch} {e : Env} {s : State} {m : MethodId} {args : Array Value} {below : List Frame} {meth : Method} {c : Code} {A : Nat → Prop} {D : va_G} {cI cZ cL : ClassId} {a : Nat → Nat} (cx : zz_Cx p s m args meth c "java/util/Arrays" b_JA_fillI 4 none D zz_cl (zz_ty cI cZ cL) A) (post : zz_St → Prop) : ∀ n : Nat, ∀ (x1 : Int32) (x2 : Int32) (x3 : Int32) (u : zz_St) (H : Heap) (locs : List Loc) (ls : Array Slot), zz_Wd D zz_cl A s.heap H locs (gw_C cI cZ cL a u) → lv_has ls 4 [(0, .ref (a 11)), (1, .int x1), (2, .int x2), (3, .int x3)] → wp_JA_fillI_GslotThrough_5_f post n x1 x2 x3 u → W p l e (rm_JA_fillI_GslotThrough) s m args below meth c H locs 0 0 (MQ below (va_Qv post (zz_B D zz_cl (zz_ty cI cZ cL) (gw_C cI cZ cL a) A) A) args s 0 0 A) (F0 m 5 ls []) := by
  intro n
  induction n with
  | zero => exact fun _ _ _ _ _ _ _ _ _ h => False.elim h
  | succ n ih => exact wk_JA_fillI_GslotThrough_5 cx post ih
set_option maxRecDepth 100000 in
set_option maxHeartbeats 4000000 in
theorem ct_JA_fillI_GslotThrough (l : Launch) (D : va_G) (cI cZ cL : ClassId) (a : Nat → Nat) {a1 : Int32} {u : zz_St} {post : zz_St → Prop} (h : wp_JA_fillI_GslotThrough  a1 u post) : zz_MV l y_JA_fillI (.code y_JA_fillI b_JA_fillI 4 none :: zz_tbl) (rm_JA_fillI_GslotThrough) D zz_cl (zz_ty cI cZ cL) (gw_C cI cZ cL a) [.ref (a 11), .int a1] u post := by
  unfold wp_JA_fillI_GslotThrough at h
  refine zz_ofV (by decide) (Nat.le_of_ble_eq_true rfl) ?_
  intro p e s m below meth c A cx hw ls hl
  obtain ⟨hx, hb, hr, hml, hown, hts, hlk, hK, hA⟩ := id cx
  refine lv_iconst (v := 0) hx hb d_JA_fillI_0 (by decide) ?_
  refine lv_istore_n (lv' := [(2, .int 0), (0, .ref (a 11)), (1, .int a1)]) hx hb d_JA_fillI_1 rfl hl (by decide) rfl (fun ls hl => ?_)
  refine lv_aload_n hx hb d_JA_fillI_2 rfl (lv_at hl 1 rfl) ?_
  refine va_alen (v := 72) hx hb hK hw.1 11 0 rfl rfl rfl d_JA_fillI_3 ?_
  refine lv_istore_n (lv' := [(3, .int 72), (2, .int 0), (0, .ref (a 11)), (1, .int a1)]) hx hb d_JA_fillI_4 rfl hl (by decide) rfl (fun ls hl => ?_)
  obtain ⟨n, h⟩ := h
  exact wk_JA_fillI_GslotThrough_5_f cx post  n a1 0 72 u _ _ _ hw (lv_sub hl [2, 3, 1, 0] rfl) h
set_option maxRecDepth 100000 in
set_option maxHeartbeats 4000000 in
theorem wk_JA_fillI_GgivenAt_5 {p : Program} {l : Launch} {e : Env} {s : State} {m : MethodId} {args : Array Value} {below : List Frame} {meth : Method} {c : Code} {A : Nat → Prop} {D : va_G} {cI cZ cL : ClassId} {a : Nat → Nat} (cx : zz_Cx p s m args meth c "java/util/Arrays" b_JA_fillI 4 none D zz_cl (zz_ty cI cZ cL) A) (post : zz_St → Prop) {kn5 : Int32 → Int32 → Int32 → zz_St → Prop} (hkn5 : ∀ (x1 : Int32) (x2 : Int32) (x3 : Int32) (u : zz_St) (H : Heap) (locs : List Loc) (ls : Array Slot), zz_Wd D zz_cl A s.heap H locs (gw_C cI cZ cL a u) → lv_has ls 4 [(0, .ref (a 6)), (1, .int x1), (2, .int x2), (3, .int x3)] → kn5 x1 x2 x3 u → W p l e (rm_JA_fillI_GgivenAt) s m args below meth c H locs 0 0 (MQ below (va_Qv post (zz_B D zz_cl (zz_ty cI cZ cL) (gw_C cI cZ cL a) A) A) args s 0 0 A) (F0 m 5 ls [])) : ∀ (x1 : Int32) (x2 : Int32) (x3 : Int32) (u : zz_St) (H : Heap) (locs : List Loc) (ls : Array Slot), zz_Wd D zz_cl A s.heap H locs (gw_C cI cZ cL a u) → lv_has ls 4 [(0, .ref (a 6)), (1, .int x1), (2, .int x2), (3, .int x3)] → wp_JA_fillI_GgivenAt_5 post kn5 x1 x2 x3 u → W p l e (rm_JA_fillI_GgivenAt) s m args below meth c H locs 0 0 (MQ below (va_Qv post (zz_B D zz_cl (zz_ty cI cZ cL) (gw_C cI cZ cL a) A) A) args s 0 0 A) (F0 m 5 ls []) := by
  intro x1 x2 x3 u H locs ls hw hl h
  unfold wp_JA_fillI_GgivenAt_5 at h
  obtain ⟨hx, hb, hr, hml, hown, hts, hlk, hK, hA⟩ := id cx
  refine lv_iload_n hx hb d_JA_fillI_5 rfl (lv_at hl 2 rfl) ?_
  refine lv_iload_n hx hb d_JA_fillI_6 rfl (lv_at hl 3 rfl) ?_
  refine lv_icmp_ge (tgt := 20) hx hb d_JA_fillI_7 (by decide) (fun c1 => ?_) (fun c1 => ?_)
  · replace h := h.1 c1
    exact zz_retv cx hw d_JA_fillI_20 h
  · replace h := h.2 c1
    refine lv_aload_n hx hb d_JA_fillI_10 rfl (lv_at hl 0 rfl) ?_
    refine lv_iload_n hx hb d_JA_fillI_11 rfl (lv_at hl 2 rfl) ?_
    refine lv_iload_n hx hb d_JA_fillI_12 rfl (lv_at hl 1 rfl) ?_
    obtain ⟨hi, h⟩ := h
    refine zz_iast (ws' := gw_C cI cZ cL a (ss_a u 1 (upd (sg_a u 1) x2.toNatClampNeg x1))) cx hw 6 0 rfl rfl hi rfl (gw_C_a1 _ _ _ _ _ _) d_JA_fillI_13 (fun H locs hw => ?_)
    refine lv_iinc (v := x2 + 1) (lv' := [(2, .int (x2 + 1)), (0, .ref (a 6)), (1, .int x1), (3, .int x3)]) hx hb d_JA_fillI_14 hl (k := 2) rfl rfl (by decide) rfl (fun ls hl => ?_)
    refine lv_goto (tgt := 5) hx hb d_JA_fillI_17 (by decide) ?_
    exact hkn5 x1 (x2 + 1) x3 (ss_a u 1 (upd (sg_a u 1) x2.toNatClampNeg x1)) _ _ _ hw (lv_sub hl [1, 2, 0, 3] rfl) h
set_option maxRecDepth 100000 in
set_option maxHeartbeats 4000000 in
theorem wk_JA_fillI_GgivenAt_5_f {p : Program} {l : Launch} {e : Env} {s : State} {m : MethodId} {args : Array Value} {below : List Frame} {meth : Method} {c : Code} {A : Nat → Prop} {D : va_G} {cI cZ cL : ClassId} {a : Nat → Nat} (cx : zz_Cx p s m args meth c "java/util/Arrays" b_JA_fillI 4 none D zz_cl (zz_ty cI cZ cL) A) (post : zz_St → Prop) : ∀ n : Nat, ∀ (x1 : Int32) (x2 : Int32) (x3 : Int32) (u : zz_St) (H : Heap) (locs : List Loc) (ls : Array Slot), zz_Wd D zz_cl A s.heap H locs (gw_C cI cZ cL a u) → lv_has ls 4 [(0, .ref (a 6)), (1, .int x1), (2, .int x2), (3, .int x3)] → wp_JA_fillI_GgivenAt_5_f post n x1 x2 x3 u → W p l e (rm_JA_fillI_GgivenAt) s m args below meth c H locs 0 0 (MQ below (va_Qv post (zz_B D zz_cl (zz_ty cI cZ cL) (gw_C cI cZ cL a) A) A) args s 0 0 A) (F0 m 5 ls []) := by
  intro n
  induction n with
  | zero => exact fun _ _ _ _ _ _ _ _ _ h => False.elim h
  | succ n ih => exact wk_JA_fillI_GgivenAt_5 cx post ih
set_option maxRecDepth 100000 in
set_option maxHeartbeats 4000000 in
theorem ct_JA_fillI_GgivenAt (l : Launch) (D : va_G) (cI cZ cL : ClassId) (a : Nat → Nat) {a1 : Int32} {u : zz_St} {post : zz_St → Prop} (h : wp_JA_fillI_GgivenAt  a1 u post) : zz_MV l y_JA_fillI (.code y_JA_fillI b_JA_fillI 4 none :: zz_tbl) (rm_JA_fillI_GgivenAt) D zz_cl (zz_ty cI cZ cL) (gw_C cI cZ cL a) [.ref (a 6), .int a1] u post := by
  unfold wp_JA_fillI_GgivenAt at h
  refine zz_ofV (by decide) (Nat.le_of_ble_eq_true rfl) ?_
  intro p e s m below meth c A cx hw ls hl
  obtain ⟨hx, hb, hr, hml, hown, hts, hlk, hK, hA⟩ := id cx
  refine lv_iconst (v := 0) hx hb d_JA_fillI_0 (by decide) ?_
  refine lv_istore_n (lv' := [(2, .int 0), (0, .ref (a 6)), (1, .int a1)]) hx hb d_JA_fillI_1 rfl hl (by decide) rfl (fun ls hl => ?_)
  refine lv_aload_n hx hb d_JA_fillI_2 rfl (lv_at hl 1 rfl) ?_
  refine va_alen (v := 36) hx hb hK hw.1 6 0 rfl rfl rfl d_JA_fillI_3 ?_
  refine lv_istore_n (lv' := [(3, .int 36), (2, .int 0), (0, .ref (a 6)), (1, .int a1)]) hx hb d_JA_fillI_4 rfl hl (by decide) rfl (fun ls hl => ?_)
  obtain ⟨n, h⟩ := h
  exact wk_JA_fillI_GgivenAt_5_f cx post  n a1 0 36 u _ _ _ hw (lv_sub hl [2, 3, 1, 0] rfl) h
set_option maxRecDepth 100000 in
set_option maxHeartbeats 4000000 in
theorem wk_JA_fillJ_LlowOfLength_6 {p : Program} {l : Launch} {e : Env} {s : State} {m : MethodId} {args : Array Value} {below : List Frame} {meth : Method} {c : Code} {A : Nat → Prop} {D : va_G} {cI cZ cL : ClassId} {a : Nat → Nat} (cx : zz_Cx p s m args meth c "java/util/Arrays" b_JA_fillJ 5 none D zz_cl (zz_ty cI cZ cL) A) (post : zz_St → Prop) {kn6 : Int64 → Int32 → Int32 → zz_St → Prop} (hkn6 : ∀ (x1 : Int64) (x3 : Int32) (x4 : Int32) (u : zz_St) (H : Heap) (locs : List Loc) (ls : Array Slot), zz_Wd D zz_cl A s.heap H locs (gw_C cI cZ cL a u) → lv_has ls 5 [(0, .ref (a 22)), (1, .long x1), (3, .int x3), (4, .int x4)] → kn6 x1 x3 x4 u → W p l e (rm_JA_fillJ_LlowOfLength) s m args below meth c H locs 0 0 (MQ below (va_Qv post (zz_B D zz_cl (zz_ty cI cZ cL) (gw_C cI cZ cL a) A) A) args s 0 0 A) (F0 m 6 ls [])) : ∀ (x1 : Int64) (x3 : Int32) (x4 : Int32) (u : zz_St) (H : Heap) (locs : List Loc) (ls : Array Slot), zz_Wd D zz_cl A s.heap H locs (gw_C cI cZ cL a u) → lv_has ls 5 [(0, .ref (a 22)), (1, .long x1), (3, .int x3), (4, .int x4)] → wp_JA_fillJ_LlowOfLength_6 post kn6 x1 x3 x4 u → W p l e (rm_JA_fillJ_LlowOfLength) s m args below meth c H locs 0 0 (MQ below (va_Qv post (zz_B D zz_cl (zz_ty cI cZ cL) (gw_C cI cZ cL a) A) A) args s 0 0 A) (F0 m 6 ls []) := by
  intro x1 x3 x4 u H locs ls hw hl h
  unfold wp_JA_fillJ_LlowOfLength_6 at h
  obtain ⟨hx, hb, hr, hml, hown, hts, hlk, hK, hA⟩ := id cx
  refine lv_iload_n hx hb d_JA_fillJ_6 rfl (lv_at hl 2 rfl) ?_
  refine lv_iload hx hb d_JA_fillJ_7 (lv_at hl 3 rfl) ?_
  refine lv_icmp_ge (tgt := 22) hx hb d_JA_fillJ_9 (by decide) (fun c1 => ?_) (fun c1 => ?_)
  · replace h := h.1 c1
    exact zz_retv cx hw d_JA_fillJ_22 h
  · replace h := h.2 c1
    refine lv_aload_n hx hb d_JA_fillJ_12 rfl (lv_at hl 0 rfl) ?_
    refine lv_iload_n hx hb d_JA_fillJ_13 rfl (lv_at hl 2 rfl) ?_
    refine lv_lload_n hx hb d_JA_fillJ_14 rfl (lv_at hl 1 rfl) ?_
    obtain ⟨hi, h⟩ := h
    refine zz_last (ws' := gw_C cI cZ cL a (ss_b u 0 (vp_updL (sg_b u 0) x3.toNatClampNeg x1))) cx hw 22 2 rfl rfl hi rfl (gw_C_b0 _ _ _ _ _ _) d_JA_fillJ_15 (fun H locs hw => ?_)
    refine lv_iinc (v := x3 + 1) (lv' := [(3, .int (x3 + 1)), (0, .ref (a 22)), (1, .long x1), (4, .int x4)]) hx hb d_JA_fillJ_16 hl (k := 2) rfl rfl (by decide) rfl (fun ls hl => ?_)
    refine lv_goto (tgt := 6) hx hb d_JA_fillJ_19 (by decide) ?_
    exact hkn6 x1 (x3 + 1) x4 (ss_b u 0 (vp_updL (sg_b u 0) x3.toNatClampNeg x1)) _ _ _ hw (lv_sub hl [1, 2, 0, 3] rfl) h
set_option maxRecDepth 100000 in
set_option maxHeartbeats 4000000 in
theorem wk_JA_fillJ_LlowOfLength_6_f {p : Program} {l : Launch} {e : Env} {s : State} {m : MethodId} {args : Array Value} {below : List Frame} {meth : Method} {c : Code} {A : Nat → Prop} {D : va_G} {cI cZ cL : ClassId} {a : Nat → Nat} (cx : zz_Cx p s m args meth c "java/util/Arrays" b_JA_fillJ 5 none D zz_cl (zz_ty cI cZ cL) A) (post : zz_St → Prop) : ∀ n : Nat, ∀ (x1 : Int64) (x3 : Int32) (x4 : Int32) (u : zz_St) (H : Heap) (locs : List Loc) (ls : Array Slot), zz_Wd D zz_cl A s.heap H locs (gw_C cI cZ cL a u) → lv_has ls 5 [(0, .ref (a 22)), (1, .long x1), (3, .int x3), (4, .int x4)] → wp_JA_fillJ_LlowOfLength_6_f post n x1 x3 x4 u → W p l e (rm_JA_fillJ_LlowOfLength) s m args below meth c H locs 0 0 (MQ below (va_Qv post (zz_B D zz_cl (zz_ty cI cZ cL) (gw_C cI cZ cL a) A) A) args s 0 0 A) (F0 m 6 ls []) := by
  intro n
  induction n with
  | zero => exact fun _ _ _ _ _ _ _ _ _ h => False.elim h
  | succ n ih => exact wk_JA_fillJ_LlowOfLength_6 cx post ih
set_option maxRecDepth 100000 in
set_option maxHeartbeats 4000000 in
theorem ct_JA_fillJ_LlowOfLength (l : Launch) (D : va_G) (cI cZ cL : ClassId) (a : Nat → Nat) {a1 : Int64} {u : zz_St} {post : zz_St → Prop} (h : wp_JA_fillJ_LlowOfLength  a1 u post) : zz_MV l y_JA_fillJ (.code y_JA_fillJ b_JA_fillJ 5 none :: zz_tbl) (rm_JA_fillJ_LlowOfLength) D zz_cl (zz_ty cI cZ cL) (gw_C cI cZ cL a) [.ref (a 22), .long a1] u post := by
  unfold wp_JA_fillJ_LlowOfLength at h
  refine zz_ofV (by decide) (Nat.le_of_ble_eq_true rfl) ?_
  intro p e s m below meth c A cx hw ls hl
  obtain ⟨hx, hb, hr, hml, hown, hts, hlk, hK, hA⟩ := id cx
  refine lv_iconst (v := 0) hx hb d_JA_fillJ_0 (by decide) ?_
  refine lv_istore_n (lv' := [(3, .int 0), (0, .ref (a 22)), (1, .long a1)]) hx hb d_JA_fillJ_1 rfl hl (by decide) rfl (fun ls hl => ?_)
  refine lv_aload_n hx hb d_JA_fillJ_2 rfl (lv_at hl 1 rfl) ?_
  refine va_alen (v := 7) hx hb hK hw.1 22 2 rfl rfl rfl d_JA_fillJ_3 ?_
  refine lv_istore (lv' := [(4, .int 7), (3, .int 0), (0, .ref (a 22)), (1, .long a1)]) hx hb d_JA_fillJ_4 hl (by decide) rfl (fun ls hl => ?_)
  obtain ⟨n, h⟩ := h
  exact wk_JA_fillJ_LlowOfLength_6_f cx post  n a1 0 7 u _ _ _ hw (lv_sub hl [2, 3, 1, 0] rfl) h
set_option maxRecDepth 100000 in
set_option maxHeartbeats 4000000 in
theorem wk_JA_fillJ_LhighOfLength_6 {p : Program} {l : Launch} {e : Env} {s : State} {m : MethodId} {args : Array Value} {below : List Frame} {meth : Method} {c : Code} {A : Nat → Prop} {D : va_G} {cI cZ cL : ClassId} {a : Nat → Nat} (cx : zz_Cx p s m args meth c "java/util/Arrays" b_JA_fillJ 5 none D zz_cl (zz_ty cI cZ cL) A) (post : zz_St → Prop) {kn6 : Int64 → Int32 → Int32 → zz_St → Prop} (hkn6 : ∀ (x1 : Int64) (x3 : Int32) (x4 : Int32) (u : zz_St) (H : Heap) (locs : List Loc) (ls : Array Slot), zz_Wd D zz_cl A s.heap H locs (gw_C cI cZ cL a u) → lv_has ls 5 [(0, .ref (a 23)), (1, .long x1), (3, .int x3), (4, .int x4)] → kn6 x1 x3 x4 u → W p l e (rm_JA_fillJ_LhighOfLength) s m args below meth c H locs 0 0 (MQ below (va_Qv post (zz_B D zz_cl (zz_ty cI cZ cL) (gw_C cI cZ cL a) A) A) args s 0 0 A) (F0 m 6 ls [])) : ∀ (x1 : Int64) (x3 : Int32) (x4 : Int32) (u : zz_St) (H : Heap) (locs : List Loc) (ls : Array Slot), zz_Wd D zz_cl A s.heap H locs (gw_C cI cZ cL a u) → lv_has ls 5 [(0, .ref (a 23)), (1, .long x1), (3, .int x3), (4, .int x4)] → wp_JA_fillJ_LhighOfLength_6 post kn6 x1 x3 x4 u → W p l e (rm_JA_fillJ_LhighOfLength) s m args below meth c H locs 0 0 (MQ below (va_Qv post (zz_B D zz_cl (zz_ty cI cZ cL) (gw_C cI cZ cL a) A) A) args s 0 0 A) (F0 m 6 ls []) := by
  intro x1 x3 x4 u H locs ls hw hl h
  unfold wp_JA_fillJ_LhighOfLength_6 at h
  obtain ⟨hx, hb, hr, hml, hown, hts, hlk, hK, hA⟩ := id cx
  refine lv_iload_n hx hb d_JA_fillJ_6 rfl (lv_at hl 2 rfl) ?_
  refine lv_iload hx hb d_JA_fillJ_7 (lv_at hl 3 rfl) ?_
  refine lv_icmp_ge (tgt := 22) hx hb d_JA_fillJ_9 (by decide) (fun c1 => ?_) (fun c1 => ?_)
  · replace h := h.1 c1
    exact zz_retv cx hw d_JA_fillJ_22 h
  · replace h := h.2 c1
    refine lv_aload_n hx hb d_JA_fillJ_12 rfl (lv_at hl 0 rfl) ?_
    refine lv_iload_n hx hb d_JA_fillJ_13 rfl (lv_at hl 2 rfl) ?_
    refine lv_lload_n hx hb d_JA_fillJ_14 rfl (lv_at hl 1 rfl) ?_
    obtain ⟨hi, h⟩ := h
    refine zz_last (ws' := gw_C cI cZ cL a (ss_b u 1 (vp_updL (sg_b u 1) x3.toNatClampNeg x1))) cx hw 23 2 rfl rfl hi rfl (gw_C_b1 _ _ _ _ _ _) d_JA_fillJ_15 (fun H locs hw => ?_)
    refine lv_iinc (v := x3 + 1) (lv' := [(3, .int (x3 + 1)), (0, .ref (a 23)), (1, .long x1), (4, .int x4)]) hx hb d_JA_fillJ_16 hl (k := 2) rfl rfl (by decide) rfl (fun ls hl => ?_)
    refine lv_goto (tgt := 6) hx hb d_JA_fillJ_19 (by decide) ?_
    exact hkn6 x1 (x3 + 1) x4 (ss_b u 1 (vp_updL (sg_b u 1) x3.toNatClampNeg x1)) _ _ _ hw (lv_sub hl [1, 2, 0, 3] rfl) h
set_option maxRecDepth 100000 in
set_option maxHeartbeats 4000000 in
theorem wk_JA_fillJ_LhighOfLength_6_f {p : Program} {l : Launch} {e : Env} {s : State} {m : MethodId} {args : Array Value} {below : List Frame} {meth : Method} {c : Code} {A : Nat → Prop} {D : va_G} {cI cZ cL : ClassId} {a : Nat → Nat} (cx : zz_Cx p s m args meth c "java/util/Arrays" b_JA_fillJ 5 none D zz_cl (zz_ty cI cZ cL) A) (post : zz_St → Prop) : ∀ n : Nat, ∀ (x1 : Int64) (x3 : Int32) (x4 : Int32) (u : zz_St) (H : Heap) (locs : List Loc) (ls : Array Slot), zz_Wd D zz_cl A s.heap H locs (gw_C cI cZ cL a u) → lv_has ls 5 [(0, .ref (a 23)), (1, .long x1), (3, .int x3), (4, .int x4)] → wp_JA_fillJ_LhighOfLength_6_f post n x1 x3 x4 u → W p l e (rm_JA_fillJ_LhighOfLength) s m args below meth c H locs 0 0 (MQ below (va_Qv post (zz_B D zz_cl (zz_ty cI cZ cL) (gw_C cI cZ cL a) A) A) args s 0 0 A) (F0 m 6 ls []) := by
  intro n
  induction n with
  | zero => exact fun _ _ _ _ _ _ _ _ _ h => False.elim h
  | succ n ih => exact wk_JA_fillJ_LhighOfLength_6 cx post ih
set_option maxRecDepth 100000 in
set_option maxHeartbeats 4000000 in
theorem ct_JA_fillJ_LhighOfLength (l : Launch) (D : va_G) (cI cZ cL : ClassId) (a : Nat → Nat) {a1 : Int64} {u : zz_St} {post : zz_St → Prop} (h : wp_JA_fillJ_LhighOfLength  a1 u post) : zz_MV l y_JA_fillJ (.code y_JA_fillJ b_JA_fillJ 5 none :: zz_tbl) (rm_JA_fillJ_LhighOfLength) D zz_cl (zz_ty cI cZ cL) (gw_C cI cZ cL a) [.ref (a 23), .long a1] u post := by
  unfold wp_JA_fillJ_LhighOfLength at h
  refine zz_ofV (by decide) (Nat.le_of_ble_eq_true rfl) ?_
  intro p e s m below meth c A cx hw ls hl
  obtain ⟨hx, hb, hr, hml, hown, hts, hlk, hK, hA⟩ := id cx
  refine lv_iconst (v := 0) hx hb d_JA_fillJ_0 (by decide) ?_
  refine lv_istore_n (lv' := [(3, .int 0), (0, .ref (a 23)), (1, .long a1)]) hx hb d_JA_fillJ_1 rfl hl (by decide) rfl (fun ls hl => ?_)
  refine lv_aload_n hx hb d_JA_fillJ_2 rfl (lv_at hl 1 rfl) ?_
  refine va_alen (v := 7) hx hb hK hw.1 23 2 rfl rfl rfl d_JA_fillJ_3 ?_
  refine lv_istore (lv' := [(4, .int 7), (3, .int 0), (0, .ref (a 23)), (1, .long a1)]) hx hb d_JA_fillJ_4 hl (by decide) rfl (fun ls hl => ?_)
  obtain ⟨n, h⟩ := h
  exact wk_JA_fillJ_LhighOfLength_6_f cx post  n a1 0 7 u _ _ _ hw (lv_sub hl [2, 3, 1, 0] rfl) h
set_option maxRecDepth 100000 in
set_option maxHeartbeats 4000000 in
theorem wk_JA_fillJ_LlowOfKey_6 {p : Program} {l : Launch} {e : Env} {s : State} {m : MethodId} {args : Array Value} {below : List Frame} {meth : Method} {c : Code} {A : Nat → Prop} {D : va_G} {cI cZ cL : ClassId} {a : Nat → Nat} (cx : zz_Cx p s m args meth c "java/util/Arrays" b_JA_fillJ 5 none D zz_cl (zz_ty cI cZ cL) A) (post : zz_St → Prop) {kn6 : Int64 → Int32 → Int32 → zz_St → Prop} (hkn6 : ∀ (x1 : Int64) (x3 : Int32) (x4 : Int32) (u : zz_St) (H : Heap) (locs : List Loc) (ls : Array Slot), zz_Wd D zz_cl A s.heap H locs (gw_C cI cZ cL a u) → lv_has ls 5 [(0, .ref (a 24)), (1, .long x1), (3, .int x3), (4, .int x4)] → kn6 x1 x3 x4 u → W p l e (rm_JA_fillJ_LlowOfKey) s m args below meth c H locs 0 0 (MQ below (va_Qv post (zz_B D zz_cl (zz_ty cI cZ cL) (gw_C cI cZ cL a) A) A) args s 0 0 A) (F0 m 6 ls [])) : ∀ (x1 : Int64) (x3 : Int32) (x4 : Int32) (u : zz_St) (H : Heap) (locs : List Loc) (ls : Array Slot), zz_Wd D zz_cl A s.heap H locs (gw_C cI cZ cL a u) → lv_has ls 5 [(0, .ref (a 24)), (1, .long x1), (3, .int x3), (4, .int x4)] → wp_JA_fillJ_LlowOfKey_6 post kn6 x1 x3 x4 u → W p l e (rm_JA_fillJ_LlowOfKey) s m args below meth c H locs 0 0 (MQ below (va_Qv post (zz_B D zz_cl (zz_ty cI cZ cL) (gw_C cI cZ cL a) A) A) args s 0 0 A) (F0 m 6 ls []) := by
  intro x1 x3 x4 u H locs ls hw hl h
  unfold wp_JA_fillJ_LlowOfKey_6 at h
  obtain ⟨hx, hb, hr, hml, hown, hts, hlk, hK, hA⟩ := id cx
  refine lv_iload_n hx hb d_JA_fillJ_6 rfl (lv_at hl 2 rfl) ?_
  refine lv_iload hx hb d_JA_fillJ_7 (lv_at hl 3 rfl) ?_
  refine lv_icmp_ge (tgt := 22) hx hb d_JA_fillJ_9 (by decide) (fun c1 => ?_) (fun c1 => ?_)
  · replace h := h.1 c1
    exact zz_retv cx hw d_JA_fillJ_22 h
  · replace h := h.2 c1
    refine lv_aload_n hx hb d_JA_fillJ_12 rfl (lv_at hl 0 rfl) ?_
    refine lv_iload_n hx hb d_JA_fillJ_13 rfl (lv_at hl 2 rfl) ?_
    refine lv_lload_n hx hb d_JA_fillJ_14 rfl (lv_at hl 1 rfl) ?_
    obtain ⟨hi, h⟩ := h
    refine zz_last (ws' := gw_C cI cZ cL a (ss_b u 2 (vp_updL (sg_b u 2) x3.toNatClampNeg x1))) cx hw 24 2 rfl rfl hi rfl (gw_C_b2 _ _ _ _ _ _) d_JA_fillJ_15 (fun H locs hw => ?_)
    refine lv_iinc (v := x3 + 1) (lv' := [(3, .int (x3 + 1)), (0, .ref (a 24)), (1, .long x1), (4, .int x4)]) hx hb d_JA_fillJ_16 hl (k := 2) rfl rfl (by decide) rfl (fun ls hl => ?_)
    refine lv_goto (tgt := 6) hx hb d_JA_fillJ_19 (by decide) ?_
    exact hkn6 x1 (x3 + 1) x4 (ss_b u 2 (vp_updL (sg_b u 2) x3.toNatClampNeg x1)) _ _ _ hw (lv_sub hl [1, 2, 0, 3] rfl) h
set_option maxRecDepth 100000 in
set_option maxHeartbeats 4000000 in
theorem wk_JA_fillJ_LlowOfKey_6_f {p : Program} {l : Launch} {e : Env} {s : State} {m : MethodId} {args : Array Value} {below : List Frame} {meth : Method} {c : Code} {A : Nat → Prop} {D : va_G} {cI cZ cL : ClassId} {a : Nat → Nat} (cx : zz_Cx p s m args meth c "java/util/Arrays" b_JA_fillJ 5 none D zz_cl (zz_ty cI cZ cL) A) (post : zz_St → Prop) : ∀ n : Nat, ∀ (x1 : Int64) (x3 : Int32) (x4 : Int32) (u : zz_St) (H : Heap) (locs : List Loc) (ls : Array Slot), zz_Wd D zz_cl A s.heap H locs (gw_C cI cZ cL a u) → lv_has ls 5 [(0, .ref (a 24)), (1, .long x1), (3, .int x3), (4, .int x4)] → wp_JA_fillJ_LlowOfKey_6_f post n x1 x3 x4 u → W p l e (rm_JA_fillJ_LlowOfKey) s m args below meth c H locs 0 0 (MQ below (va_Qv post (zz_B D zz_cl (zz_ty cI cZ cL) (gw_C cI cZ cL a) A) A) args s 0 0 A) (F0 m 6 ls []) := by
  intro n
  induction n with
  | zero => exact fun _ _ _ _ _ _ _ _ _ h => False.elim h
  | succ n ih => exact wk_JA_fillJ_LlowOfKey_6 cx post ih
set_option maxRecDepth 100000 in
set_option maxHeartbeats 4000000 in
theorem ct_JA_fillJ_LlowOfKey (l : Launch) (D : va_G) (cI cZ cL : ClassId) (a : Nat → Nat) {a1 : Int64} {u : zz_St} {post : zz_St → Prop} (h : wp_JA_fillJ_LlowOfKey  a1 u post) : zz_MV l y_JA_fillJ (.code y_JA_fillJ b_JA_fillJ 5 none :: zz_tbl) (rm_JA_fillJ_LlowOfKey) D zz_cl (zz_ty cI cZ cL) (gw_C cI cZ cL a) [.ref (a 24), .long a1] u post := by
  unfold wp_JA_fillJ_LlowOfKey at h
  refine zz_ofV (by decide) (Nat.le_of_ble_eq_true rfl) ?_
  intro p e s m below meth c A cx hw ls hl
  obtain ⟨hx, hb, hr, hml, hown, hts, hlk, hK, hA⟩ := id cx
  refine lv_iconst (v := 0) hx hb d_JA_fillJ_0 (by decide) ?_
  refine lv_istore_n (lv' := [(3, .int 0), (0, .ref (a 24)), (1, .long a1)]) hx hb d_JA_fillJ_1 rfl hl (by decide) rfl (fun ls hl => ?_)
  refine lv_aload_n hx hb d_JA_fillJ_2 rfl (lv_at hl 1 rfl) ?_
  refine va_alen (v := 156) hx hb hK hw.1 24 2 rfl rfl rfl d_JA_fillJ_3 ?_
  refine lv_istore (lv' := [(4, .int 156), (3, .int 0), (0, .ref (a 24)), (1, .long a1)]) hx hb d_JA_fillJ_4 hl (by decide) rfl (fun ls hl => ?_)
  obtain ⟨n, h⟩ := h
  exact wk_JA_fillJ_LlowOfKey_6_f cx post  n a1 0 156 u _ _ _ hw (lv_sub hl [2, 3, 1, 0] rfl) h
set_option maxRecDepth 100000 in
set_option maxHeartbeats 4000000 in
theorem wk_JA_fillJ_LhighOfKey_6 {p : Program} {l : Launch} {e : Env} {s : State} {m : MethodId} {args : Array Value} {below : List Frame} {meth : Method} {c : Code} {A : Nat → Prop} {D : va_G} {cI cZ cL : ClassId} {a : Nat → Nat} (cx : zz_Cx p s m args meth c "java/util/Arrays" b_JA_fillJ 5 none D zz_cl (zz_ty cI cZ cL) A) (post : zz_St → Prop) {kn6 : Int64 → Int32 → Int32 → zz_St → Prop} (hkn6 : ∀ (x1 : Int64) (x3 : Int32) (x4 : Int32) (u : zz_St) (H : Heap) (locs : List Loc) (ls : Array Slot), zz_Wd D zz_cl A s.heap H locs (gw_C cI cZ cL a u) → lv_has ls 5 [(0, .ref (a 25)), (1, .long x1), (3, .int x3), (4, .int x4)] → kn6 x1 x3 x4 u → W p l e (rm_JA_fillJ_LhighOfKey) s m args below meth c H locs 0 0 (MQ below (va_Qv post (zz_B D zz_cl (zz_ty cI cZ cL) (gw_C cI cZ cL a) A) A) args s 0 0 A) (F0 m 6 ls [])) : ∀ (x1 : Int64) (x3 : Int32) (x4 : Int32) (u : zz_St) (H : Heap) (locs : List Loc) (ls : Array Slot), zz_Wd D zz_cl A s.heap H locs (gw_C cI cZ cL a u) → lv_has ls 5 [(0, .ref (a 25)), (1, .long x1), (3, .int x3), (4, .int x4)] → wp_JA_fillJ_LhighOfKey_6 post kn6 x1 x3 x4 u → W p l e (rm_JA_fillJ_LhighOfKey) s m args below meth c H locs 0 0 (MQ below (va_Qv post (zz_B D zz_cl (zz_ty cI cZ cL) (gw_C cI cZ cL a) A) A) args s 0 0 A) (F0 m 6 ls []) := by
  intro x1 x3 x4 u H locs ls hw hl h
  unfold wp_JA_fillJ_LhighOfKey_6 at h
  obtain ⟨hx, hb, hr, hml, hown, hts, hlk, hK, hA⟩ := id cx
  refine lv_iload_n hx hb d_JA_fillJ_6 rfl (lv_at hl 2 rfl) ?_
  refine lv_iload hx hb d_JA_fillJ_7 (lv_at hl 3 rfl) ?_
  refine lv_icmp_ge (tgt := 22) hx hb d_JA_fillJ_9 (by decide) (fun c1 => ?_) (fun c1 => ?_)
  · replace h := h.1 c1
    exact zz_retv cx hw d_JA_fillJ_22 h
  · replace h := h.2 c1
    refine lv_aload_n hx hb d_JA_fillJ_12 rfl (lv_at hl 0 rfl) ?_
    refine lv_iload_n hx hb d_JA_fillJ_13 rfl (lv_at hl 2 rfl) ?_
    refine lv_lload_n hx hb d_JA_fillJ_14 rfl (lv_at hl 1 rfl) ?_
    obtain ⟨hi, h⟩ := h
    refine zz_last (ws' := gw_C cI cZ cL a (ss_b u 3 (vp_updL (sg_b u 3) x3.toNatClampNeg x1))) cx hw 25 2 rfl rfl hi rfl (gw_C_b3 _ _ _ _ _ _) d_JA_fillJ_15 (fun H locs hw => ?_)
    refine lv_iinc (v := x3 + 1) (lv' := [(3, .int (x3 + 1)), (0, .ref (a 25)), (1, .long x1), (4, .int x4)]) hx hb d_JA_fillJ_16 hl (k := 2) rfl rfl (by decide) rfl (fun ls hl => ?_)
    refine lv_goto (tgt := 6) hx hb d_JA_fillJ_19 (by decide) ?_
    exact hkn6 x1 (x3 + 1) x4 (ss_b u 3 (vp_updL (sg_b u 3) x3.toNatClampNeg x1)) _ _ _ hw (lv_sub hl [1, 2, 0, 3] rfl) h
set_option maxRecDepth 100000 in
set_option maxHeartbeats 4000000 in
theorem wk_JA_fillJ_LhighOfKey_6_f {p : Program} {l : Launch} {e : Env} {s : State} {m : MethodId} {args : Array Value} {below : List Frame} {meth : Method} {c : Code} {A : Nat → Prop} {D : va_G} {cI cZ cL : ClassId} {a : Nat → Nat} (cx : zz_Cx p s m args meth c "java/util/Arrays" b_JA_fillJ 5 none D zz_cl (zz_ty cI cZ cL) A) (post : zz_St → Prop) : ∀ n : Nat, ∀ (x1 : Int64) (x3 : Int32) (x4 : Int32) (u : zz_St) (H : Heap) (locs : List Loc) (ls : Array Slot), zz_Wd D zz_cl A s.heap H locs (gw_C cI cZ cL a u) → lv_has ls 5 [(0, .ref (a 25)), (1, .long x1), (3, .int x3), (4, .int x4)] → wp_JA_fillJ_LhighOfKey_6_f post n x1 x3 x4 u → W p l e (rm_JA_fillJ_LhighOfKey) s m args below meth c H locs 0 0 (MQ below (va_Qv post (zz_B D zz_cl (zz_ty cI cZ cL) (gw_C cI cZ cL a) A) A) args s 0 0 A) (F0 m 6 ls []) := by
  intro n
  induction n with
  | zero => exact fun _ _ _ _ _ _ _ _ _ h => False.elim h
  | succ n ih => exact wk_JA_fillJ_LhighOfKey_6 cx post ih
set_option maxRecDepth 100000 in
set_option maxHeartbeats 4000000 in
theorem ct_JA_fillJ_LhighOfKey (l : Launch) (D : va_G) (cI cZ cL : ClassId) (a : Nat → Nat) {a1 : Int64} {u : zz_St} {post : zz_St → Prop} (h : wp_JA_fillJ_LhighOfKey  a1 u post) : zz_MV l y_JA_fillJ (.code y_JA_fillJ b_JA_fillJ 5 none :: zz_tbl) (rm_JA_fillJ_LhighOfKey) D zz_cl (zz_ty cI cZ cL) (gw_C cI cZ cL a) [.ref (a 25), .long a1] u post := by
  unfold wp_JA_fillJ_LhighOfKey at h
  refine zz_ofV (by decide) (Nat.le_of_ble_eq_true rfl) ?_
  intro p e s m below meth c A cx hw ls hl
  obtain ⟨hx, hb, hr, hml, hown, hts, hlk, hK, hA⟩ := id cx
  refine lv_iconst (v := 0) hx hb d_JA_fillJ_0 (by decide) ?_
  refine lv_istore_n (lv' := [(3, .int 0), (0, .ref (a 25)), (1, .long a1)]) hx hb d_JA_fillJ_1 rfl hl (by decide) rfl (fun ls hl => ?_)
  refine lv_aload_n hx hb d_JA_fillJ_2 rfl (lv_at hl 1 rfl) ?_
  refine va_alen (v := 156) hx hb hK hw.1 25 2 rfl rfl rfl d_JA_fillJ_3 ?_
  refine lv_istore (lv' := [(4, .int 156), (3, .int 0), (0, .ref (a 25)), (1, .long a1)]) hx hb d_JA_fillJ_4 hl (by decide) rfl (fun ls hl => ?_)
  obtain ⟨n, h⟩ := h
  exact wk_JA_fillJ_LhighOfKey_6_f cx post  n a1 0 156 u _ _ _ hw (lv_sub hl [2, 3, 1, 0] rfl) h
