set_option maxRecDepth 100000 in
set_option maxHeartbeats 4000000 in
theorem ct_L_lowBit (l : Launch) (D : va_G) (cI cZ cL : ClassId) (a : Nat → Nat) {a0 : Int32} {u : zz_St} {post : Int64 → zz_St → Prop} (h : wp_L_lowBit  a0 u post) : zz_ML l y_L_lowBit (.code y_L_lowBit b_L_lowBit 1 (some .long) :: zz_tbl) (rm_L_lowBit) D zz_cl (zz_ty cI cZ cL) (gw_C cI cZ cL a) [.int a0] u post := by
  unfold wp_L_lowBit at h
  refine zz_ofL (by decide) (Nat.le_of_ble_eq_true rfl) ?_
  intro p e s m below meth c A cx hw ls hl
  obtain ⟨hx, hb, hr, hml, hown, hts, hlk, hK, hA⟩ := id cx
  refine lv_iload_n hx hb d_L_lowBit_0 rfl (lv_at hl 0 rfl) ?_
  refine lv_bipush (v := 64) hx hb d_L_lowBit_1 (by decide) ?_
  refine lv_icmp_ge (tgt := 12) hx hb d_L_lowBit_3 (by decide) (fun c1 => ?_) (fun c1 => ?_)
  · replace h := h.1 c1
    refine lv_lconst (v := 0) hx hb d_L_lowBit_12 (by decide) ?_
    exact zz_retl cx hw d_L_lowBit_13 h
  · replace h := h.2 c1
    refine lv_lconst (v := 1) hx hb d_L_lowBit_6 (by decide) ?_
    refine lv_iload_n hx hb d_L_lowBit_7 rfl (lv_at hl 0 rfl) ?_
    refine lv_lshl hx hb d_L_lowBit_8 rfl ?_
    refine lv_goto (tgt := 13) hx hb d_L_lowBit_9 (by decide) ?_
    exact zz_retl cx hw d_L_lowBit_13 h
set_option maxRecDepth 100000 in
set_option maxHeartbeats 4000000 in
theorem ct_L_highBit (l : Launch) (D : va_G) (cI cZ cL : ClassId) (a : Nat → Nat) {a0 : Int32} {u : zz_St} {post : Int64 → zz_St → Prop} (h : wp_L_highBit  a0 u post) : zz_ML l y_L_highBit (.code y_L_highBit b_L_highBit 1 (some .long) :: zz_tbl) (rm_L_highBit) D zz_cl (zz_ty cI cZ cL) (gw_C cI cZ cL a) [.int a0] u post := by
  unfold wp_L_highBit at h
  refine zz_ofL (by decide) (Nat.le_of_ble_eq_true rfl) ?_
  intro p e s m below meth c A cx hw ls hl
  obtain ⟨hx, hb, hr, hml, hown, hts, hlk, hK, hA⟩ := id cx
  refine lv_iload_n hx hb d_L_highBit_0 rfl (lv_at hl 0 rfl) ?_
  refine lv_bipush (v := 64) hx hb d_L_highBit_1 (by decide) ?_
  refine lv_icmp_ge (tgt := 10) hx hb d_L_highBit_3 (by decide) (fun c1 => ?_) (fun c1 => ?_)
  · replace h := h.1 c1
    refine lv_lconst (v := 1) hx hb d_L_highBit_10 (by decide) ?_
    refine lv_iload_n hx hb d_L_highBit_11 rfl (lv_at hl 0 rfl) ?_
    refine lv_bipush (v := 64) hx hb d_L_highBit_12 (by decide) ?_
    refine lv_isub hx hb d_L_highBit_14 ?_
    refine lv_lshl hx hb d_L_highBit_15 rfl ?_
    exact zz_retl cx hw d_L_highBit_16 h
  · replace h := h.2 c1
    refine lv_lconst (v := 0) hx hb d_L_highBit_6 (by decide) ?_
    refine lv_goto (tgt := 16) hx hb d_L_highBit_7 (by decide) ?_
    exact zz_retl cx hw d_L_highBit_16 h
set_option maxRecDepth 100000 in
set_option maxHeartbeats 4000000 in
theorem ct_L_keyOf (l : Launch) (D : va_G) (cI cZ cL : ClassId) (a : Nat → Nat) {a0 : Int32} {a1 : Int32} {u : zz_St} {post : Int32 → zz_St → Prop} (h : wp_L_keyOf  a0 a1 u post) : zz_MI l y_L_keyOf (.code y_L_keyOf b_L_keyOf 2 (some .int) :: zz_tbl) (rm_L_keyOf) D zz_cl (zz_ty cI cZ cL) (gw_C cI cZ cL a) [.int a0, .int a1] u post := by
  unfold wp_L_keyOf at h
  refine zz_ofI (by decide) (Nat.le_of_ble_eq_true rfl) ?_
  intro p e s m below meth c A cx hw ls hl
  obtain ⟨hx, hb, hr, hml, hown, hts, hlk, hK, hA⟩ := id cx
  refine lv_iload_n hx hb d_L_keyOf_0 rfl (lv_at hl 0 rfl) ?_
  refine lv_bipush (v := 26) hx hb d_L_keyOf_1 (by decide) ?_
  refine lv_imul hx hb d_L_keyOf_3 ?_
  refine lv_iload_n hx hb d_L_keyOf_4 rfl (lv_at hl 1 rfl) ?_
  refine lv_iadd hx hb d_L_keyOf_5 ?_
  refine lv_bipush (v := 97) hx hb d_L_keyOf_6 (by decide) ?_
  refine lv_isub hx hb d_L_keyOf_8 ?_
  exact zz_reti cx hw d_L_keyOf_9 h
set_option maxRecDepth 100000 in
set_option maxHeartbeats 4000000 in
theorem ct_L_hasWord (l : Launch) (D : va_G) (cI cZ cL : ClassId) (a : Nat → Nat) {a0 : Int32} {u : zz_St} {post : Int32 → zz_St → Prop} (h : wp_L_hasWord  a0 u post) : zz_MI l y_L_hasWord (.code y_L_hasWord b_L_hasWord 2 (some .boolean) :: zz_tbl) (rm_L_hasWord) D zz_cl (zz_ty cI cZ cL) (gw_C cI cZ cL a) [.ref (a 2), .int a0] u post := by
  unfold wp_L_hasWord at h
  refine zz_ofI (by decide) (Nat.le_of_ble_eq_true rfl) ?_
  intro p e s m below meth c A cx hw ls hl
  obtain ⟨hx, hb, hr, hml, hown, hts, hlk, hK, hA⟩ := id cx
  refine lv_iload_n hx hb d_L_hasWord_0 rfl (lv_at hl 1 rfl) ?_
  refine lv_if_lt (tgt := 16) hx hb d_L_hasWord_1 (by decide) (fun c1 => ?_) (fun c1 => ?_)
  · replace h := h.1 c1
    refine lv_iconst (v := 0) hx hb d_L_hasWord_16 (by decide) ?_
    exact zz_retz cx hw d_L_hasWord_17 (by decide) h
  · replace h := h.2 c1
    refine lv_iload_n hx hb d_L_hasWord_4 rfl (lv_at hl 1 rfl) ?_
    refine lv_aload_n hx hb d_L_hasWord_5 rfl (lv_at hl 0 rfl) ?_
    refine zz_get (v2 := .int (sg_i u 4)) cx hw in_L 2 rfl rfl 0 (by decide) kw_53 rfl rfl d_L_hasWord_6 ?_
    refine lv_icmp_ge (tgt := 16) hx hb d_L_hasWord_9 (by decide) (fun c2 => ?_) (fun c2 => ?_)
    · replace h := h.1 c2
      refine lv_iconst (v := 0) hx hb d_L_hasWord_16 (by decide) ?_
      exact zz_retz cx hw d_L_hasWord_17 (by decide) h
    · replace h := h.2 c2
      refine lv_iconst (v := 1) hx hb d_L_hasWord_12 (by decide) ?_
      refine lv_goto (tgt := 17) hx hb d_L_hasWord_13 (by decide) ?_
      exact zz_retz cx hw d_L_hasWord_17 (by decide) h
set_option maxRecDepth 100000 in
set_option maxHeartbeats 4000000 in
theorem ct_L_letterOf (l : Launch) (D : va_G) (cI cZ cL : ClassId) (a : Nat → Nat) {a0 : Int32} {a1 : Int32} {u : zz_St} {post : Int32 → zz_St → Prop} (h : wp_L_letterOf  a0 a1 u post) : zz_MI l y_L_letterOf (.code y_L_letterOf b_L_letterOf 3 (some .int) :: zz_tbl) (rm_L_letterOf) D zz_cl (zz_ty cI cZ cL) (gw_C cI cZ cL a) [.ref (a 2), .int a0, .int a1] u post := by
  unfold wp_L_letterOf at h
  refine zz_ofI (by decide) (Nat.le_of_ble_eq_true rfl) ?_
  intro p e s m below meth c A cx hw ls hl
  obtain ⟨hx, hb, hr, hml, hown, hts, hlk, hK, hA⟩ := id cx
  refine lv_aload_n hx hb d_L_letterOf_0 rfl (lv_at hl 0 rfl) ?_
  refine zz_get (v2 := .ref (a 18)) cx hw in_L 2 rfl rfl 9 (by decide) kw_54 rfl rfl d_L_letterOf_1 ?_
  refine lv_iload_n hx hb d_L_letterOf_4 rfl (lv_at hl 1 rfl) ?_
  refine lv_bipush (v := 6) hx hb d_L_letterOf_5 (by decide) ?_
  refine lv_imul hx hb d_L_letterOf_7 ?_
  refine lv_iload_n hx hb d_L_letterOf_8 rfl (lv_at hl 2 rfl) ?_
  refine lv_iadd hx hb d_L_letterOf_9 ?_
  obtain ⟨hi, h⟩ := h
  refine zz_iald (f2 := sg_a u 13) cx hw 18 0 rfl rfl hi rfl d_L_letterOf_10 ?_
  exact zz_reti cx hw d_L_letterOf_11 h
set_option maxRecDepth 100000 in
set_option maxHeartbeats 4000000 in
theorem ct_L_collect (l : Launch) (D : va_G) (cI cZ cL : ClassId) (a : Nat → Nat) {a0 : Int32} {u : zz_St} {post : Int32 → zz_St → Prop} (h : wp_L_collect  a0 u post) : zz_MI l y_L_collect (.code y_L_collect b_L_collect 2 (some .boolean) :: zz_tbl) (rm_L_collect) D zz_cl (zz_ty cI cZ cL) (gw_C cI cZ cL a) [.ref (a 2), .int a0] u post := by
  unfold wp_L_collect at h
  refine zz_ofI (by decide) (Nat.le_of_ble_eq_true rfl) ?_
  intro p e s m below meth c A cx hw ls hl
  obtain ⟨hx, hb, hr, hml, hown, hts, hlk, hK, hA⟩ := id cx
  refine lv_aload_n hx hb d_L_collect_0 rfl (lv_at hl 0 rfl) ?_
  refine zz_get (v2 := .int (sg_i u 5)) cx hw in_L 2 rfl rfl 11 (by decide) kw_55 rfl rfl d_L_collect_1 ?_
  refine lv_bipush (v := 6) hx hb d_L_collect_4 (by decide) ?_
  refine lv_icmp_lt (tgt := 11) hx hb d_L_collect_6 (by decide) (fun c1 => ?_) (fun c1 => ?_)
  · replace h := h.1 c1
    refine lv_aload_n hx hb d_L_collect_11 rfl (lv_at hl 0 rfl) ?_
    refine zz_get (v2 := .ref (a 19)) cx hw in_L 2 rfl rfl 10 (by decide) kw_56 rfl rfl d_L_collect_12 ?_
    refine lv_aload_n hx hb d_L_collect_15 rfl (lv_at hl 0 rfl) ?_
    refine zz_get (v2 := .int (sg_i u 5)) cx hw in_L 2 rfl rfl 11 (by decide) kw_55 rfl rfl d_L_collect_16 ?_
    refine lv_iload_n hx hb d_L_collect_19 rfl (lv_at hl 1 rfl) ?_
    obtain ⟨hi, h⟩ := h
    refine zz_iast (ws' := gw_C cI cZ cL a (ss_a u 14 (upd (sg_a u 14) (sg_i u 5).toNatClampNeg a0))) cx hw 19 0 rfl rfl hi rfl (gw_C_a14 _ _ _ _ _ _) d_L_collect_20 (fun H locs hw => ?_)
    refine lv_aload_n hx hb d_L_collect_21 rfl (lv_at hl 0 rfl) ?_
    refine lv_dup hx hb d_L_collect_22 rfl ?_
    refine zz_get (v2 := .int (sg_i u 5)) cx hw in_L 2 rfl rfl 11 (by decide) kw_55 rfl (congrArg Value.int (sx_ia _ _ _ _)) d_L_collect_23 ?_
    refine lv_iconst (v := 1) hx hb d_L_collect_26 (by decide) ?_
    refine lv_iadd hx hb d_L_collect_27 ?_
    refine lv_topi (fun v2 ev2 => ?_)
    replace h := h v2 ev2
    refine zz_put (v := .int v2) (ws' := gw_C cI cZ cL a (ss_i (ss_a u 14 (upd (sg_a u 14) (sg_i u 5).toNatClampNeg a0)) 5 v2)) cx hw in_L ty_L tk_L nm_L 2 rfl rfl 11 (by decide) kw_55 rfl ⟨rfl, rfl⟩ (Nat.le_of_ble_eq_true rfl) (gw_C_i5 _ _ _ _ _ _) d_L_collect_28 (fun H locs hw => ?_)
    refine lv_iconst (v := 1) hx hb d_L_collect_31 (by decide) ?_
    exact zz_retz cx hw d_L_collect_32 (by decide) h
  · replace h := h.2 c1
    refine lv_iconst (v := 0) hx hb d_L_collect_9 (by decide) ?_
    exact zz_retz cx hw d_L_collect_10 (by decide) h
set_option maxRecDepth 100000 in
set_option maxHeartbeats 4000000 in
theorem ct_L_dropCollected (l : Launch) (D : va_G) (cI cZ cL : ClassId) (a : Nat → Nat) {u : zz_St} {post : zz_St → Prop} (h : wp_L_dropCollected  u post) : zz_MV l y_L_dropCollected (.code y_L_dropCollected b_L_dropCollected 1 none :: zz_tbl) (rm_L_dropCollected) D zz_cl (zz_ty cI cZ cL) (gw_C cI cZ cL a) [.ref (a 2)] u post := by
  unfold wp_L_dropCollected at h
  refine zz_ofV (by decide) (Nat.le_of_ble_eq_true rfl) ?_
  intro p e s m below meth c A cx hw ls hl
  obtain ⟨hx, hb, hr, hml, hown, hts, hlk, hK, hA⟩ := id cx
  refine lv_aload_n hx hb d_L_dropCollected_0 rfl (lv_at hl 0 rfl) ?_
  refine lv_iconst (v := 0) hx hb d_L_dropCollected_1 (by decide) ?_
  refine zz_put (v := .int 0) (ws' := gw_C cI cZ cL a (ss_i u 5 0)) cx hw in_L ty_L tk_L nm_L 2 rfl rfl 11 (by decide) kw_55 rfl ⟨rfl, rfl⟩ (Nat.le_of_ble_eq_true rfl) (gw_C_i5 _ _ _ _ _ _) d_L_dropCollected_2 (fun H locs hw => ?_)
  exact zz_retv cx hw d_L_dropCollected_5 h
set_option maxRecDepth 100000 in
set_option maxHeartbeats 4000000 in
theorem wk_L_isCollected_17 {p : Program} {l : Launch} {e : Env} {s : State} {m : MethodId} {args : Array Value} {below : List Frame} {meth : Method} {c : Code} {A : Nat → Prop} {D : va_G} {cI cZ cL : ClassId} {a : Nat → Nat} (cx : zz_Cx p s m args meth c "GridFills$WordList" b_L_isCollected 3 (some .boolean) D zz_cl (zz_ty cI cZ cL) A) (post : Int32 → zz_St → Prop) {kn17 : Int32 → Int32 → zz_St → Prop} (hkn17 : ∀ (x1 : Int32) (x2 : Int32) (u : zz_St) (H : Heap) (locs : List Loc) (ls : Array Slot), zz_Wd D zz_cl A s.heap H locs (gw_C cI cZ cL a u) → lv_has ls 3 [(0, .ref (a 2)), (1, .int x1), (2, .int x2)] → kn17 x1 x2 u → W p l e (rm_L_isCollected) s m args below meth c H locs 0 0 (MQ below (va_Qi post (zz_B D zz_cl (zz_ty cI cZ cL) (gw_C cI cZ cL a) A) A) args s 0 0 A) (F0 m 17 ls [])) : ∀ (x1 : Int32) (x2 : Int32) (u : zz_St) (H : Heap) (locs : List Loc) (ls : Array Slot), zz_Wd D zz_cl A s.heap H locs (gw_C cI cZ cL a u) → lv_has ls 3 [(0, .ref (a 2)), (1, .int x1), (2, .int x2)] → wp_L_isCollected_17 post kn17 x1 x2 u → W p l e (rm_L_isCollected) s m args below meth c H locs 0 0 (MQ below (va_Qi post (zz_B D zz_cl (zz_ty cI cZ cL) (gw_C cI cZ cL a) A) A) args s 0 0 A) (F0 m 17 ls []) := by
  intro x1 x2 u H locs ls hw hl h
  unfold wp_L_isCollected_17 at h
  obtain ⟨hx, hb, hr, hml, hown, hts, hlk, hK, hA⟩ := id cx
  refine lv_iload_n hx hb d_L_isCollected_17 rfl (lv_at hl 2 rfl) ?_
  refine lv_aload_n hx hb d_L_isCollected_18 rfl (lv_at hl 0 rfl) ?_
  refine zz_get (v2 := .int (sg_i u 5)) cx hw in_L 2 rfl rfl 11 (by decide) kw_55 rfl rfl d_L_isCollected_19 ?_
  refine lv_icmp_ge (tgt := 48) hx hb d_L_isCollected_22 (by decide) (fun c2 => ?_) (fun c2 => ?_)
  · replace h := h.1 c2
    refine lv_iconst (v := 1) hx hb d_L_isCollected_48 (by decide) ?_
    exact zz_retz cx hw d_L_isCollected_49 (by decide) h
  · replace h := h.2 c2
    refine lv_aload_n hx hb d_L_isCollected_25 rfl (lv_at hl 0 rfl) ?_
    refine lv_iload_n hx hb d_L_isCollected_26 rfl (lv_at hl 1 rfl) ?_
    refine lv_iload_n hx hb d_L_isCollected_27 rfl (lv_at hl 2 rfl) ?_
    refine zz_callVi (As := [.int x1, .int x2]) (rest := []) cx hw (ct_L_letterOf l D cI cZ cL a h) (zz_gV kw_58 kw_61 kw_62 kw_60 kw_59) hd_L_letterOf ⟨rfl, rfl⟩ ⟨Nat.le_of_ble_eq_true rfl, Nat.le_of_ble_eq_true rfl⟩ 2 rfl rfl rfl rfl hl.1 rfl (Nat.le_of_ble_eq_true rfl) d_L_isCollected_28 (fun r4 s3 H locs h hw => ?_)
    refine lv_aload_n hx hb d_L_isCollected_31 rfl (lv_at hl 0 rfl) ?_
    refine zz_get (v2 := .ref (a 19)) cx hw in_L 2 rfl rfl 10 (by decide) kw_56 rfl rfl d_L_isCollected_32 ?_
    refine lv_iload_n hx hb d_L_isCollected_35 rfl (lv_at hl 2 rfl) ?_
    obtain ⟨hi, h⟩ := h
    refine zz_iald (f2 := sg_a s3 14) cx hw 19 0 rfl rfl hi rfl d_L_isCollected_36 ?_
    refine lv_icmp_eq (tgt := 42) hx hb d_L_isCollected_37 (by decide) (fun c5 => ?_) (fun c5 => ?_)
    · replace h := h.1 c5
      refine lv_iinc (v := x2 + 1) (lv' := [(2, .int (x2 + 1)), (0, .ref (a 2)), (1, .int x1)]) hx hb d_L_isCollected_42 hl (k := 2) rfl rfl (by decide) rfl (fun ls hl => ?_)
      refine lv_goto (tgt := 17) hx hb d_L_isCollected_45 (by decide) ?_
      exact hkn17 x1 (x2 + 1) s3 _ _ _ hw (lv_sub hl [1, 2, 0] rfl) h
    · replace h := h.2 c5
      refine lv_iconst (v := 0) hx hb d_L_isCollected_40 (by decide) ?_
      exact zz_retz cx hw d_L_isCollected_41 (by decide) h
set_option maxRecDepth 100000 in
set_option maxHeartbeats 4000000 in
theorem wk_L_isCollected_17_f {p : Program} {l : Launch} {e : Env} {s : State} {m : MethodId} {args : Array Value} {below : List Frame} {meth : Method} {c : Code} {A : Nat → Prop} {D : va_G} {cI cZ cL : ClassId} {a : Nat → Nat} (cx : zz_Cx p s m args meth c "GridFills$WordList" b_L_isCollected 3 (some .boolean) D zz_cl (zz_ty cI cZ cL) A) (post : Int32 → zz_St → Prop) : ∀ n : Nat, ∀ (x1 : Int32) (x2 : Int32) (u : zz_St) (H : Heap) (locs : List Loc) (ls : Array Slot), zz_Wd D zz_cl A s.heap H locs (gw_C cI cZ cL a u) → lv_has ls 3 [(0, .ref (a 2)), (1, .int x1), (2, .int x2)] → wp_L_isCollected_17_f post n x1 x2 u → W p l e (rm_L_isCollected) s m args below meth c H locs 0 0 (MQ below (va_Qi post (zz_B D zz_cl (zz_ty cI cZ cL) (gw_C cI cZ cL a) A) A) args s 0 0 A) (F0 m 17 ls []) := by
  intro n
  induction n with
  | zero => exact fun _ _ _ _ _ _ _ _ h => False.elim h
  | succ n ih => exact wk_L_isCollected_17 cx post ih
set_option maxRecDepth 100000 in
set_option maxHeartbeats 4000000 in
theorem ct_L_isCollected (l : Launch) (D : va_G) (cI cZ cL : ClassId) (a : Nat → Nat) {a0 : Int32} {u : zz_St} {post : Int32 → zz_St → Prop} (h : wp_L_isCollected  a0 u post) : zz_MI l y_L_isCollected (.code y_L_isCollected b_L_isCollected 3 (some .boolean) :: zz_tbl) (rm_L_isCollected) D zz_cl (zz_ty cI cZ cL) (gw_C cI cZ cL a) [.ref (a 2), .int a0] u post := by
  unfold wp_L_isCollected at h
  refine zz_ofI (by decide) (Nat.le_of_ble_eq_true rfl) ?_
  intro p e s m below meth c A cx hw ls hl
  obtain ⟨hx, hb, hr, hml, hown, hts, hlk, hK, hA⟩ := id cx
  refine lv_aload_n hx hb d_L_isCollected_0 rfl (lv_at hl 0 rfl) ?_
  refine zz_get (v2 := .ref (a 14)) cx hw in_L 2 rfl rfl 1 (by decide) kw_57 rfl rfl d_L_isCollected_1 ?_
  refine lv_iload_n hx hb d_L_isCollected_4 rfl (lv_at hl 1 rfl) ?_
  obtain ⟨hi, h⟩ := h
  refine zz_iald (f2 := sg_a u 9) cx hw 14 0 rfl rfl hi rfl d_L_isCollected_5 ?_
  refine lv_aload_n hx hb d_L_isCollected_6 rfl (lv_at hl 0 rfl) ?_
  refine zz_get (v2 := .int (sg_i u 5)) cx hw in_L 2 rfl rfl 11 (by decide) kw_55 rfl rfl d_L_isCollected_7 ?_
  refine lv_icmp_eq (tgt := 15) hx hb d_L_isCollected_10 (by decide) (fun c1 => ?_) (fun c1 => ?_)
  · replace h := h.1 c1
    refine lv_iconst (v := 0) hx hb d_L_isCollected_15 (by decide) ?_
    refine lv_istore_n (lv' := [(2, .int 0), (0, .ref (a 2)), (1, .int a0)]) hx hb d_L_isCollected_16 rfl hl (by decide) rfl (fun ls hl => ?_)
    obtain ⟨n, h⟩ := h
    exact wk_L_isCollected_17_f cx post  n a0 0 u _ _ _ hw (lv_sub hl [1, 2, 0] rfl) h
  · replace h := h.2 c1
    refine lv_iconst (v := 0) hx hb d_L_isCollected_13 (by decide) ?_
    exact zz_retz cx hw d_L_isCollected_14 (by decide) h
set_option maxRecDepth 100000 in
set_option maxHeartbeats 4000000 in
theorem wk_L_isThere_2 {p : Program} {l : Launch} {e : Env} {s : State} {m : MethodId} {args : Array Value} {below : List Frame} {meth : Method} {c : Code} {A : Nat → Prop} {D : va_G} {cI cZ cL : ClassId} {a : Nat → Nat} (cx : zz_Cx p s m args meth c "GridFills$WordList" b_L_isThere 2 (some .boolean) D zz_cl (zz_ty cI cZ cL) A) (post : Int32 → zz_St → Prop) {kn2 : Int32 → zz_St → Prop} (hkn2 : ∀ (x1 : Int32) (u : zz_St) (H : Heap) (locs : List Loc) (ls : Array Slot), zz_Wd D zz_cl A s.heap H locs (gw_C cI cZ cL a u) → lv_has ls 2 [(0, .ref (a 2)), (1, .int x1)] → kn2 x1 u → W p l e (rm_L_isThere) s m args below meth c H locs 0 0 (MQ below (va_Qi post (zz_B D zz_cl (zz_ty cI cZ cL) (gw_C cI cZ cL a) A) A) args s 0 0 A) (F0 m 2 ls [])) : ∀ (x1 : Int32) (u : zz_St) (H : Heap) (locs : List Loc) (ls : Array Slot), zz_Wd D zz_cl A s.heap H locs (gw_C cI cZ cL a u) → lv_has ls 2 [(0, .ref (a 2)), (1, .int x1)] → wp_L_isThere_2 post kn2 x1 u → W p l e (rm_L_isThere) s m args below meth c H locs 0 0 (MQ below (va_Qi post (zz_B D zz_cl (zz_ty cI cZ cL) (gw_C cI cZ cL a) A) A) args s 0 0 A) (F0 m 2 ls []) := by
  intro x1 u H locs ls hw hl h
  unfold wp_L_isThere_2 at h
  obtain ⟨hx, hb, hr, hml, hown, hts, hlk, hK, hA⟩ := id cx
  refine lv_iload_n hx hb d_L_isThere_2 rfl (lv_at hl 1 rfl) ?_
  refine lv_aload_n hx hb d_L_isThere_3 rfl (lv_at hl 0 rfl) ?_
  refine zz_get (v2 := .int (sg_i u 4)) cx hw in_L 2 rfl rfl 0 (by decide) kw_53 rfl rfl d_L_isThere_4 ?_
  refine lv_icmp_ge (tgt := 26) hx hb d_L_isThere_7 (by decide) (fun c1 => ?_) (fun c1 => ?_)
  · replace h := h.1 c1
    refine lv_iconst (v := 0) hx hb d_L_isThere_26 (by decide) ?_
    exact zz_retz cx hw d_L_isThere_27 (by decide) h
  · replace h := h.2 c1
    refine lv_aload_n hx hb d_L_isThere_10 rfl (lv_at hl 0 rfl) ?_
    refine lv_iload_n hx hb d_L_isThere_11 rfl (lv_at hl 1 rfl) ?_
    refine zz_callVi (As := [.int x1]) (rest := []) cx hw (ct_L_isCollected l D cI cZ cL a h) (zz_gV kw_63 kw_65 kw_66 kw_60 kw_64) hd_L_isCollected ⟨rfl, rfl⟩ ⟨Nat.le_of_ble_eq_true rfl, Nat.le_of_ble_eq_true rfl⟩ 2 rfl rfl rfl rfl hl.1 rfl (Nat.le_of_ble_eq_true rfl) d_L_isThere_12 (fun r3 s2 H locs h hw => ?_)
    refine lv_if_eq (tgt := 20) hx hb d_L_isThere_15 (by decide) (fun c4 => ?_) (fun c4 => ?_)
    · replace h := h.1 c4
      refine lv_iinc (v := x1 + 1) (lv' := [(1, .int (x1 + 1)), (0, .ref (a 2))]) hx hb d_L_isThere_20 hl (k := 1) rfl rfl (by decide) rfl (fun ls hl => ?_)
      refine lv_goto (tgt := 2) hx hb d_L_isThere_23 (by decide) ?_
      exact hkn2 (x1 + 1) s2 _ _ _ hw (lv_sub hl [1, 0] rfl) h
    · replace h := h.2 c4
      refine lv_iconst (v := 1) hx hb d_L_isThere_18 (by decide) ?_
      exact zz_retz cx hw d_L_isThere_19 (by decide) h
set_option maxRecDepth 100000 in
set_option maxHeartbeats 4000000 in
theorem wk_L_isThere_2_f {p : Program} {l : Launch} {e : Env} {s : State} {m : MethodId} {args : Array Value} {below : List Frame} {meth : Method} {c : Code} {A : Nat → Prop} {D : va_G} {cI cZ cL : ClassId} {a : Nat → Nat} (cx : zz_Cx p s m args meth c "GridFills$WordList" b_L_isThere 2 (some .boolean) D zz_cl (zz_ty cI cZ cL) A) (post : Int32 → zz_St → Prop) : ∀ n : Nat, ∀ (x1 : Int32) (u : zz_St) (H : Heap) (locs : List Loc) (ls : Array Slot), zz_Wd D zz_cl A s.heap H locs (gw_C cI cZ cL a u) → lv_has ls 2 [(0, .ref (a 2)), (1, .int x1)] → wp_L_isThere_2_f post n x1 u → W p l e (rm_L_isThere) s m args below meth c H locs 0 0 (MQ below (va_Qi post (zz_B D zz_cl (zz_ty cI cZ cL) (gw_C cI cZ cL a) A) A) args s 0 0 A) (F0 m 2 ls []) := by
  intro n
  induction n with
  | zero => exact fun _ _ _ _ _ _ _ h => False.elim h
  | succ n ih => exact wk_L_isThere_2 cx post ih
set_option maxRecDepth 100000 in
set_option maxHeartbeats 4000000 in
theorem ct_L_isThere (l : Launch) (D : va_G) (cI cZ cL : ClassId) (a : Nat → Nat) {u : zz_St} {post : Int32 → zz_St → Prop} (h : wp_L_isThere  u post) : zz_MI l y_L_isThere (.code y_L_isThere b_L_isThere 2 (some .boolean) :: zz_tbl) (rm_L_isThere) D zz_cl (zz_ty cI cZ cL) (gw_C cI cZ cL a) [.ref (a 2)] u post := by
  unfold wp_L_isThere at h
  refine zz_ofI (by decide) (Nat.le_of_ble_eq_true rfl) ?_
  intro p e s m below meth c A cx hw ls hl
  obtain ⟨hx, hb, hr, hml, hown, hts, hlk, hK, hA⟩ := id cx
  refine lv_iconst (v := 0) hx hb d_L_isThere_0 (by decide) ?_
  refine lv_istore_n (lv' := [(1, .int 0), (0, .ref (a 2))]) hx hb d_L_isThere_1 rfl hl (by decide) rfl (fun ls hl => ?_)
  obtain ⟨n, h⟩ := h
  exact wk_L_isThere_2_f cx post  n 0 u _ _ _ hw (lv_sub hl [1, 0] rfl) h
set_option maxRecDepth 100000 in
set_option maxHeartbeats 4000000 in
theorem wk_L_rank_48 {p : Program} {l : Launch} {e : Env} {s : State} {m : MethodId} {args : Array Value} {below : List Frame} {meth : Method} {c : Code} {A : Nat → Prop} {D : va_G} {cI cZ cL : ClassId} {a : Nat → Nat} (cx : zz_Cx p s m args meth c "GridFills$WordList" b_L_rank 3 none D zz_cl (zz_ty cI cZ cL) A) (post : zz_St → Prop) : ∀ (x1 : Int32) (x2 : Int32) (u : zz_St) (H : Heap) (locs : List Loc) (ls : Array Slot), zz_Wd D zz_cl A s.heap H locs (gw_C cI cZ cL a u) → lv_has ls 3 [(0, .ref (a 2)), (1, .int x1), (2, .int x2)] → wp_L_rank_48 post x1 x2 u → W p l e (rm_L_rank) s m args below meth c H locs 0 0 (MQ below (va_Qv post (zz_B D zz_cl (zz_ty cI cZ cL) (gw_C cI cZ cL a) A) A) args s 0 0 A) (F0 m 48 ls []) := by
  intro x1 x2 u H locs ls hw hl h
  unfold wp_L_rank_48 at h
  obtain ⟨hx, hb, hr, hml, hown, hts, hlk, hK, hA⟩ := id cx
  refine lv_aload_n hx hb d_L_rank_48 rfl (lv_at hl 0 rfl) ?_
  refine zz_get (v2 := .ref (a 16)) cx hw in_L 2 rfl rfl 3 (by decide) kw_68 rfl rfl d_L_rank_49 ?_
  refine lv_iload_n hx hb d_L_rank_52 rfl (lv_at hl 2 rfl) ?_
  refine lv_iload_n hx hb d_L_rank_53 rfl (lv_at hl 1 rfl) ?_
  obtain ⟨hi, h⟩ := h
  refine zz_iast (ws' := gw_C cI cZ cL a (ss_a u 11 (upd (sg_a u 11) x2.toNatClampNeg x1))) cx hw 16 0 rfl rfl hi rfl (gw_C_a11 _ _ _ _ _ _) d_L_rank_54 (fun H locs hw => ?_)
  exact zz_retv cx hw d_L_rank_55 h
set_option maxRecDepth 100000 in
set_option maxHeartbeats 4000000 in
theorem wk_L_rank_2 {p : Program} {l : Launch} {e : Env} {s : State} {m : MethodId} {args : Array Value} {below : List Frame} {meth : Method} {c : Code} {A : Nat → Prop} {D : va_G} {cI cZ cL : ClassId} {a : Nat → Nat} (cx : zz_Cx p s m args meth c "GridFills$WordList" b_L_rank 3 none D zz_cl (zz_ty cI cZ cL) A) (post : zz_St → Prop) {kn2 : Int32 → Int32 → zz_St → Prop} (hkn2 : ∀ (x1 : Int32) (x2 : Int32) (u : zz_St) (H : Heap) (locs : List Loc) (ls : Array Slot), zz_Wd D zz_cl A s.heap H locs (gw_C cI cZ cL a u) → lv_has ls 3 [(0, .ref (a 2)), (1, .int x1), (2, .int x2)] → kn2 x1 x2 u → W p l e (rm_L_rank) s m args below meth c H locs 0 0 (MQ below (va_Qv post (zz_B D zz_cl (zz_ty cI cZ cL) (gw_C cI cZ cL a) A) A) args s 0 0 A) (F0 m 2 ls [])) : ∀ (x1 : Int32) (x2 : Int32) (u : zz_St) (H : Heap) (locs : List Loc) (ls : Array Slot), zz_Wd D zz_cl A s.heap H locs (gw_C cI cZ cL a u) → lv_has ls 3 [(0, .ref (a 2)), (1, .int x1), (2, .int x2)] → wp_L_rank_2 post kn2 x1 x2 u → W p l e (rm_L_rank) s m args below meth c H locs 0 0 (MQ below (va_Qv post (zz_B D zz_cl (zz_ty cI cZ cL) (gw_C cI cZ cL a) A) A) args s 0 0 A) (F0 m 2 ls []) := by
  intro x1 x2 u H locs ls hw hl h
  unfold wp_L_rank_2 at h
  obtain ⟨hx, hb, hr, hml, hown, hts, hlk, hK, hA⟩ := id cx
  refine lv_iload_n hx hb d_L_rank_2 rfl (lv_at hl 2 rfl) ?_
  refine lv_if_le (tgt := 48) hx hb d_L_rank_3 (by decide) (fun c1 => ?_) (fun c1 => ?_)
  · replace h := h.1 c1
    exact wk_L_rank_48 cx post  x1 x2 u _ _ _ hw (lv_sub hl [0, 1, 2] rfl) h
  · replace h := h.2 c1
    refine lv_aload_n hx hb d_L_rank_6 rfl (lv_at hl 0 rfl) ?_
    refine zz_get (v2 := .ref (a 15)) cx hw in_L 2 rfl rfl 2 (by decide) kw_67 rfl rfl d_L_rank_7 ?_
    refine lv_aload_n hx hb d_L_rank_10 rfl (lv_at hl 0 rfl) ?_
    refine zz_get (v2 := .ref (a 16)) cx hw in_L 2 rfl rfl 3 (by decide) kw_68 rfl rfl d_L_rank_11 ?_
    refine lv_iload_n hx hb d_L_rank_14 rfl (lv_at hl 2 rfl) ?_
    refine lv_iconst (v := 1) hx hb d_L_rank_15 (by decide) ?_
    refine lv_isub hx hb d_L_rank_16 ?_
    obtain ⟨hi, h⟩ := h
    refine zz_iald (f2 := sg_a u 11) cx hw 16 0 rfl rfl hi rfl d_L_rank_17 ?_
    obtain ⟨hi, h⟩ := h
    refine zz_iald (f2 := sg_a u 10) cx hw 15 0 rfl rfl hi rfl d_L_rank_18 ?_
    refine lv_aload_n hx hb d_L_rank_19 rfl (lv_at hl 0 rfl) ?_
    refine zz_get (v2 := .ref (a 15)) cx hw in_L 2 rfl rfl 2 (by decide) kw_67 rfl rfl d_L_rank_20 ?_
    refine lv_iload_n hx hb d_L_rank_23 rfl (lv_at hl 1 rfl) ?_
    obtain ⟨hi, h⟩ := h
    refine zz_iald (f2 := sg_a u 10) cx hw 15 0 rfl rfl hi rfl d_L_rank_24 ?_
    refine lv_icmp_ge (tgt := 48) hx hb d_L_rank_25 (by decide) (fun c2 => ?_) (fun c2 => ?_)
    · replace h := h.1 c2
      exact wk_L_rank_48 cx post  x1 x2 u _ _ _ hw (lv_sub hl [0, 1, 2] rfl) h
    · replace h := h.2 c2
      refine lv_aload_n hx hb d_L_rank_28 rfl (lv_at hl 0 rfl) ?_
      refine zz_get (v2 := .ref (a 16)) cx hw in_L 2 rfl rfl 3 (by decide) kw_68 rfl rfl d_L_rank_29 ?_
      refine lv_iload_n hx hb d_L_rank_32 rfl (lv_at hl 2 rfl) ?_
      refine lv_aload_n hx hb d_L_rank_33 rfl (lv_at hl 0 rfl) ?_
      refine zz_get (v2 := .ref (a 16)) cx hw in_L 2 rfl rfl 3 (by decide) kw_68 rfl rfl d_L_rank_34 ?_
      refine lv_iload_n hx hb d_L_rank_37 rfl (lv_at hl 2 rfl) ?_
      refine lv_iconst (v := 1) hx hb d_L_rank_38 (by decide) ?_
      refine lv_isub hx hb d_L_rank_39 ?_
      obtain ⟨hi, h⟩ := h
      refine zz_iald (f2 := sg_a u 11) cx hw 16 0 rfl rfl hi rfl d_L_rank_40 ?_
      refine lv_topi (fun v3 ev3 => ?_)
      replace h := h v3 ev3
      obtain ⟨hi, h⟩ := h
      refine zz_iast (ws' := gw_C cI cZ cL a (ss_a u 11 (upd (sg_a u 11) x2.toNatClampNeg v3))) cx hw 16 0 rfl rfl hi rfl (gw_C_a11 _ _ _ _ _ _) d_L_rank_41 (fun H locs hw => ?_)
      refine lv_iinc (v := x2 + (-1)) (lv' := [(2, .int (x2 + (-1))), (0, .ref (a 2)), (1, .int x1)]) hx hb d_L_rank_42 hl (k := 2) rfl rfl (by decide) rfl (fun ls hl => ?_)
      refine lv_goto (tgt := 2) hx hb d_L_rank_45 (by decide) ?_
      exact hkn2 x1 (x2 + (-1)) (ss_a u 11 (upd (sg_a u 11) x2.toNatClampNeg v3)) _ _ _ hw (lv_sub hl [1, 2, 0] rfl) h
set_option maxRecDepth 100000 in
set_option maxHeartbeats 4000000 in
theorem wk_L_rank_2_f {p : Program} {l : Launch} {e : Env} {s : State} {m : MethodId} {args : Array Value} {below : List Frame} {meth : Method} {c : Code} {A : Nat → Prop} {D : va_G} {cI cZ cL : ClassId} {a : Nat → Nat} (cx : zz_Cx p s m args meth c "GridFills$WordList" b_L_rank 3 none D zz_cl (zz_ty cI cZ cL) A) (post : zz_St → Prop) : ∀ n : Nat, ∀ (x1 : Int32) (x2 : Int32) (u : zz_St) (H : Heap) (locs : List Loc) (ls : Array Slot), zz_Wd D zz_cl A s.heap H locs (gw_C cI cZ cL a u) → lv_has ls 3 [(0, .ref (a 2)), (1, .int x1), (2, .int x2)] → wp_L_rank_2_f post n x1 x2 u → W p l e (rm_L_rank) s m args below meth c H locs 0 0 (MQ below (va_Qv post (zz_B D zz_cl (zz_ty cI cZ cL) (gw_C cI cZ cL a) A) A) args s 0 0 A) (F0 m 2 ls []) := by
  intro n
  induction n with
  | zero => exact fun _ _ _ _ _ _ _ _ h => False.elim h
  | succ n ih => exact wk_L_rank_2 cx post ih
set_option maxRecDepth 100000 in
set_option maxHeartbeats 4000000 in
theorem ct_L_rank (l : Launch) (D : va_G) (cI cZ cL : ClassId) (a : Nat → Nat) {a0 : Int32} {u : zz_St} {post : zz_St → Prop} (h : wp_L_rank  a0 u post) : zz_MV l y_L_rank (.code y_L_rank b_L_rank 3 none :: zz_tbl) (rm_L_rank) D zz_cl (zz_ty cI cZ cL) (gw_C cI cZ cL a) [.ref (a 2), .int a0] u post := by
  unfold wp_L_rank at h
  refine zz_ofV (by decide) (Nat.le_of_ble_eq_true rfl) ?_
  intro p e s m below meth c A cx hw ls hl
  obtain ⟨hx, hb, hr, hml, hown, hts, hlk, hK, hA⟩ := id cx
  refine lv_iload_n hx hb d_L_rank_0 rfl (lv_at hl 1 rfl) ?_
  refine lv_istore_n (lv' := [(2, .int a0), (0, .ref (a 2)), (1, .int a0)]) hx hb d_L_rank_1 rfl hl (by decide) rfl (fun ls hl => ?_)
  obtain ⟨n, h⟩ := h
  exact wk_L_rank_2_f cx post  n a0 a0 u _ _ _ hw (lv_sub hl [1, 2, 0] rfl) h
set_option maxRecDepth 100000 in
set_option maxHeartbeats 4000000 in
theorem wk_L_sortIntoSets_94 {p : Program} {l : Launch} {e : Env} {s : State} {m : MethodId} {args : Array Value} {below : List Frame} {meth : Method} {c : Code} {A : Nat → Prop} {D : va_G} {cI cZ cL : ClassId} {a : Nat → Nat} (cx : zz_Cx p s m args meth c "GridFills$WordList" b_L_sortIntoSets 5 none D zz_cl (zz_ty cI cZ cL) A) (post : zz_St → Prop) {kn34 : Int32 → zz_St → Prop} {kn94 : Int32 → Int32 → Int32 → zz_St → Prop} (hkn34 : ∀ (x1 : Int32) (u : zz_St) (H : Heap) (locs : List Loc) (ls : Array Slot), zz_Wd D zz_cl A s.heap H locs (gw_C cI cZ cL a u) → lv_has ls 5 [(0, .ref (a 2)), (1, .int x1)] → kn34 x1 u → W p l e (rm_L_sortIntoSets) s m args below meth c H locs 0 0 (MQ below (va_Qv post (zz_B D zz_cl (zz_ty cI cZ cL) (gw_C cI cZ cL a) A) A) args s 0 0 A) (F0 m 34 ls [])) (hkn94 : ∀ (x1 : Int32) (x2 : Int32) (x3 : Int32) (u : zz_St) (H : Heap) (locs : List Loc) (ls : Array Slot), zz_Wd D zz_cl A s.heap H locs (gw_C cI cZ cL a u) → lv_has ls 5 [(0, .ref (a 2)), (1, .int x1), (2, .int x2), (3, .int x3)] → kn94 x1 x2 x3 u → W p l e (rm_L_sortIntoSets) s m args below meth c H locs 0 0 (MQ below (va_Qv post (zz_B D zz_cl (zz_ty cI cZ cL) (gw_C cI cZ cL a) A) A) args s 0 0 A) (F0 m 94 ls [])) : ∀ (x1 : Int32) (x2 : Int32) (x3 : Int32) (u : zz_St) (H : Heap) (locs : List Loc) (ls : Array Slot), zz_Wd D zz_cl A s.heap H locs (gw_C cI cZ cL a u) → lv_has ls 5 [(0, .ref (a 2)), (1, .int x1), (2, .int x2), (3, .int x3)] → wp_L_sortIntoSets_94 post kn34 kn94 x1 x2 x3 u → W p l e (rm_L_sortIntoSets) s m args below meth c H locs 0 0 (MQ below (va_Qv post (zz_B D zz_cl (zz_ty cI cZ cL) (gw_C cI cZ cL a) A) A) args s 0 0 A) (F0 m 94 ls []) := by
  intro x1 x2 x3 u H locs ls hw hl h
  unfold wp_L_sortIntoSets_94 at h
  obtain ⟨hx, hb, hr, hml, hown, hts, hlk, hK, hA⟩ := id cx
  refine lv_iload_n hx hb d_L_sortIntoSets_94 rfl (lv_at hl 3 rfl) ?_
  refine lv_aload_n hx hb d_L_sortIntoSets_95 rfl (lv_at hl 0 rfl) ?_
  refine zz_get (v2 := .ref (a 14)) cx hw in_L 2 rfl rfl 1 (by decide) kw_57 rfl rfl d_L_sortIntoSets_96 ?_
  refine lv_iload_n hx hb d_L_sortIntoSets_99 rfl (lv_at hl 2 rfl) ?_
  obtain ⟨hi, h⟩ := h
  refine zz_iald (f2 := sg_a u 9) cx hw 14 0 rfl rfl hi rfl d_L_sortIntoSets_100 ?_
  refine lv_icmp_ge (tgt := 150) hx hb d_L_sortIntoSets_101 (by decide) (fun c13 => ?_) (fun c13 => ?_)
  · replace h := h.1 c13
    refine lv_iinc (v := x1 + 1) (lv' := [(1, .int (x1 + 1)), (0, .ref (a 2)), (2, .int x2), (3, .int x3)]) hx hb d_L_sortIntoSets_150 hl (k := 1) rfl rfl (by decide) rfl (fun ls hl => ?_)
    refine lv_goto (tgt := 34) hx hb d_L_sortIntoSets_153 (by decide) ?_
    exact hkn34 (x1 + 1) u _ _ _ hw (lv_sub hl [1, 0] rfl) h
  · replace h := h.2 c13
    refine lv_iload_n hx hb d_L_sortIntoSets_104 rfl (lv_at hl 3 rfl) ?_
    refine lv_aload_n hx hb d_L_sortIntoSets_105 rfl (lv_at hl 0 rfl) ?_
    refine lv_iload_n hx hb d_L_sortIntoSets_106 rfl (lv_at hl 2 rfl) ?_
    refine lv_iload_n hx hb d_L_sortIntoSets_107 rfl (lv_at hl 3 rfl) ?_
    refine zz_callVi (As := [.int x2, .int x3]) (rest := [.int x3]) cx hw (ct_L_letterOf l D cI cZ cL a h) (zz_gV kw_58 kw_61 kw_62 kw_60 kw_59) hd_L_letterOf ⟨rfl, rfl⟩ ⟨Nat.le_of_ble_eq_true rfl, Nat.le_of_ble_eq_true rfl⟩ 2 rfl rfl rfl rfl hl.1 rfl (Nat.le_of_ble_eq_true rfl) d_L_sortIntoSets_108 (fun r15 s14 H locs h hw => ?_)
    refine zz_callSi (As := [.int x3, .int r15]) (rest := []) cx hw (ct_L_keyOf l D cI cZ cL a h) (zz_gS kw_83 kw_85 kw_60 kw_84) hd_L_keyOf ⟨rfl, rfl⟩ ⟨Nat.le_of_ble_eq_true rfl, Nat.le_of_ble_eq_true rfl⟩ rfl hl.1 rfl (Nat.le_of_ble_eq_true rfl) d_L_sortIntoSets_111 (fun r17 s16 H locs h hw => ?_)
    refine lv_istore (lv' := [(4, .int r17), (0, .ref (a 2)), (1, .int x1), (2, .int x2), (3, .int x3)]) hx hb d_L_sortIntoSets_114 hl (by decide) rfl (fun ls hl => ?_)
    refine lv_aload_n hx hb d_L_sortIntoSets_116 rfl (lv_at hl 1 rfl) ?_
    refine zz_get (v2 := .ref (a 24)) cx hw in_L 2 rfl rfl 7 (by decide) kw_71 rfl rfl d_L_sortIntoSets_117 ?_
    refine lv_iload hx hb d_L_sortIntoSets_120 (lv_at hl 0 rfl) ?_
    refine lv_dup2_11 hx hb d_L_sortIntoSets_122 rfl rfl ?_
    obtain ⟨hi, h⟩ := h
    refine zz_lald (f2 := sg_b s16 2) cx hw 24 2 rfl rfl hi rfl d_L_sortIntoSets_123 ?_
    refine lv_iload_n hx hb d_L_sortIntoSets_124 rfl (lv_at hl 2 rfl) ?_
    refine zz_callSl (As := [.int x1]) (rest := [.long (sg_b s16 2 r17.toNatClampNeg), .int r17, .ref (a 24)]) cx hw (ct_L_lowBit l D cI cZ cL a h) (zz_gS kw_80 kw_82 kw_60 kw_81) hd_L_lowBit ⟨rfl, rfl⟩ ⟨Nat.le_of_ble_eq_true rfl, Nat.le_of_ble_eq_true rfl⟩ rfl hl.1 rfl (Nat.le_of_ble_eq_true rfl) d_L_sortIntoSets_125 (fun r19 s18 H locs h hw => ?_)
    refine lv_lor hx hb d_L_sortIntoSets_128 ?_
    refine lv_topl (fun v20 ev20 => ?_)
    replace h := h v20 ev20
    obtain ⟨hi, h⟩ := h
    refine zz_last (ws' := gw_C cI cZ cL a (ss_b s18 2 (vp_updL (sg_b s18 2) r17.toNatClampNeg v20))) cx hw 24 2 rfl rfl hi rfl (gw_C_b2 _ _ _ _ _ _) d_L_sortIntoSets_129 (fun H locs hw => ?_)
    refine lv_aload_n hx hb d_L_sortIntoSets_130 rfl (lv_at hl 1 rfl) ?_
    refine zz_get (v2 := .ref (a 25)) cx hw in_L 2 rfl rfl 8 (by decide) kw_72 rfl rfl d_L_sortIntoSets_131 ?_
    refine lv_iload hx hb d_L_sortIntoSets_134 (lv_at hl 0 rfl) ?_
    refine lv_dup2_11 hx hb d_L_sortIntoSets_136 rfl rfl ?_
    obtain ⟨hi, h⟩ := h
    refine zz_lald (f2 := sg_b s18 3) cx hw 25 2 rfl rfl hi (sy_b _ _ (by decide)) d_L_sortIntoSets_137 ?_
    refine lv_iload_n hx hb d_L_sortIntoSets_138 rfl (lv_at hl 2 rfl) ?_
    refine zz_callSl (As := [.int x1]) (rest := [.long (sg_b s18 3 r17.toNatClampNeg), .int r17, .ref (a 25)]) cx hw (ct_L_highBit l D cI cZ cL a h) (zz_gS kw_77 kw_79 kw_60 kw_78) hd_L_highBit ⟨rfl, rfl⟩ ⟨Nat.le_of_ble_eq_true rfl, Nat.le_of_ble_eq_true rfl⟩ rfl hl.1 rfl (Nat.le_of_ble_eq_true rfl) d_L_sortIntoSets_139 (fun r22 s21 H locs h hw => ?_)
    refine lv_lor hx hb d_L_sortIntoSets_142 ?_
    refine lv_topl (fun v23 ev23 => ?_)
    replace h := h v23 ev23
    obtain ⟨hi, h⟩ := h
    refine zz_last (ws' := gw_C cI cZ cL a (ss_b s21 3 (vp_updL (sg_b s21 3) r17.toNatClampNeg v23))) cx hw 25 2 rfl rfl hi rfl (gw_C_b3 _ _ _ _ _ _) d_L_sortIntoSets_143 (fun H locs hw => ?_)
    refine lv_iinc (v := x3 + 1) (lv' := [(3, .int (x3 + 1)), (4, .int r17), (0, .ref (a 2)), (1, .int x1), (2, .int x2)]) hx hb d_L_sortIntoSets_144 hl (k := 4) rfl rfl (by decide) rfl (fun ls hl => ?_)
    refine lv_goto (tgt := 94) hx hb d_L_sortIntoSets_147 (by decide) ?_
    exact hkn94 x1 x2 (x3 + 1) (ss_b s21 3 (vp_updL (sg_b s21 3) r17.toNatClampNeg v23)) _ _ _ hw (lv_sub hl [2, 3, 4, 0] rfl) h
set_option maxRecDepth 100000 in
set_option maxHeartbeats 4000000 in
theorem wk_L_sortIntoSets_94_f {p : Program} {l : Launch} {e : Env} {s : State} {m : MethodId} {args : Array Value} {below : List Frame} {meth : Method} {c : Code} {A : Nat → Prop} {D : va_G} {cI cZ cL : ClassId} {a : Nat → Nat} (cx : zz_Cx p s m args meth c "GridFills$WordList" b_L_sortIntoSets 5 none D zz_cl (zz_ty cI cZ cL) A) (post : zz_St → Prop) {kn34 : Int32 → zz_St → Prop} (hkn34 : ∀ (x1 : Int32) (u : zz_St) (H : Heap) (locs : List Loc) (ls : Array Slot), zz_Wd D zz_cl A s.heap H locs (gw_C cI cZ cL a u) → lv_has ls 5 [(0, .ref (a 2)), (1, .int x1)] → kn34 x1 u → W p l e (rm_L_sortIntoSets) s m args below meth c H locs 0 0 (MQ below (va_Qv post (zz_B D zz_cl (zz_ty cI cZ cL) (gw_C cI cZ cL a) A) A) args s 0 0 A) (F0 m 34 ls [])) : ∀ n : Nat, ∀ (x1 : Int32) (x2 : Int32) (x3 : Int32) (u : zz_St) (H : Heap) (locs : List Loc) (ls : Array Slot), zz_Wd D zz_cl A s.heap H locs (gw_C cI cZ cL a u) → lv_has ls 5 [(0, .ref (a 2)), (1, .int x1), (2, .int x2), (3, .int x3)] → wp_L_sortIntoSets_94_f post kn34 n x1 x2 x3 u → W p l e (rm_L_sortIntoSets) s m args below meth c H locs 0 0 (MQ below (va_Qv post (zz_B D zz_cl (zz_ty cI cZ cL) (gw_C cI cZ cL a) A) A) args s 0 0 A) (F0 m 94 ls []) := by
  intro n
  induction n with
  | zero => exact fun _ _ _ _ _ _ _ _ _ h => False.elim h
  | succ n ih => exact wk_L_sortIntoSets_94 cx post hkn34 ih
set_option maxRecDepth 100000 in
set_option maxHeartbeats 4000000 in
theorem wk_L_sortIntoSets_34 {p : Program} {l : Launch} {e : Env} {s : State} {m : MethodId} {args : Array Value} {below : List Frame} {meth : Method} {c : Code} {A : Nat → Prop} {D : va_G} {cI cZ cL : ClassId} {a : Nat → Nat} (cx : zz_Cx p s m args meth c "GridFills$WordList" b_L_sortIntoSets 5 none D zz_cl (zz_ty cI cZ cL) A) (post : zz_St → Prop) {kn34 : Int32 → zz_St → Prop} (hkn34 : ∀ (x1 : Int32) (u : zz_St) (H : Heap) (locs : List Loc) (ls : Array Slot), zz_Wd D zz_cl A s.heap H locs (gw_C cI cZ cL a u) → lv_has ls 5 [(0, .ref (a 2)), (1, .int x1)] → kn34 x1 u → W p l e (rm_L_sortIntoSets) s m args below meth c H locs 0 0 (MQ below (va_Qv post (zz_B D zz_cl (zz_ty cI cZ cL) (gw_C cI cZ cL a) A) A) args s 0 0 A) (F0 m 34 ls [])) : ∀ (x1 : Int32) (u : zz_St) (H : Heap) (locs : List Loc) (ls : Array Slot), zz_Wd D zz_cl A s.heap H locs (gw_C cI cZ cL a u) → lv_has ls 5 [(0, .ref (a 2)), (1, .int x1)] → wp_L_sortIntoSets_34 post kn34 x1 u → W p l e (rm_L_sortIntoSets) s m args below meth c H locs 0 0 (MQ below (va_Qv post (zz_B D zz_cl (zz_ty cI cZ cL) (gw_C cI cZ cL a) A) A) args s 0 0 A) (F0 m 34 ls []) := by
  intro x1 u H locs ls hw hl h
  unfold wp_L_sortIntoSets_34 at h
  obtain ⟨hx, hb, hr, hml, hown, hts, hlk, hK, hA⟩ := id cx
  refine lv_iload_n hx hb d_L_sortIntoSets_34 rfl (lv_at hl 1 rfl) ?_
  refine lv_aload_n hx hb d_L_sortIntoSets_35 rfl (lv_at hl 0 rfl) ?_
  refine zz_get (v2 := .int (sg_i u 4)) cx hw in_L 2 rfl rfl 0 (by decide) kw_53 rfl rfl d_L_sortIntoSets_36 ?_
  refine lv_icmp_ge (tgt := 156) hx hb d_L_sortIntoSets_39 (by decide) (fun c5 => ?_) (fun c5 => ?_)
  · replace h := h.1 c5
    exact zz_retv cx hw d_L_sortIntoSets_156 h
  · replace h := h.2 c5
    refine lv_aload_n hx hb d_L_sortIntoSets_42 rfl (lv_at hl 0 rfl) ?_
    refine zz_get (v2 := .ref (a 16)) cx hw in_L 2 rfl rfl 3 (by decide) kw_68 rfl rfl d_L_sortIntoSets_43 ?_
    refine lv_iload_n hx hb d_L_sortIntoSets_46 rfl (lv_at hl 1 rfl) ?_
    obtain ⟨hi, h⟩ := h
    refine zz_iald (f2 := sg_a u 11) cx hw 16 0 rfl rfl hi rfl d_L_sortIntoSets_47 ?_
    refine lv_topi (fun v6 ev6 => ?_)
    replace h := h v6 ev6
    refine lv_istore_n (lv' := [(2, .int v6), (0, .ref (a 2)), (1, .int x1)]) hx hb d_L_sortIntoSets_48 rfl hl (by decide) rfl (fun ls hl => ?_)
    refine lv_aload_n hx hb d_L_sortIntoSets_49 rfl (lv_at hl 1 rfl) ?_
    refine zz_get (v2 := .ref (a 17)) cx hw in_L 2 rfl rfl 4 (by decide) kw_76 rfl rfl d_L_sortIntoSets_50 ?_
    refine lv_iload_n hx hb d_L_sortIntoSets_53 rfl (lv_at hl 0 rfl) ?_
    refine lv_iload_n hx hb d_L_sortIntoSets_54 rfl (lv_at hl 2 rfl) ?_
    obtain ⟨hi, h⟩ := h
    refine zz_iast (ws' := gw_C cI cZ cL a (ss_a u 12 (upd (sg_a u 12) v6.toNatClampNeg x1))) cx hw 17 0 rfl rfl hi rfl (gw_C_a12 _ _ _ _ _ _) d_L_sortIntoSets_55 (fun H locs hw => ?_)
    refine lv_aload_n hx hb d_L_sortIntoSets_56 rfl (lv_at hl 1 rfl) ?_
    refine zz_get (v2 := .ref (a 22)) cx hw in_L 2 rfl rfl 5 (by decide) kw_69 rfl rfl d_L_sortIntoSets_57 ?_
    refine lv_aload_n hx hb d_L_sortIntoSets_60 rfl (lv_at hl 1 rfl) ?_
    refine zz_get (v2 := .ref (a 14)) cx hw in_L 2 rfl rfl 1 (by decide) kw_57 rfl rfl d_L_sortIntoSets_61 ?_
    refine lv_iload_n hx hb d_L_sortIntoSets_64 rfl (lv_at hl 0 rfl) ?_
    obtain ⟨hi, h⟩ := h
    refine zz_iald (f2 := sg_a u 9) cx hw 14 0 rfl rfl hi (sy_a _ _ (by decide)) d_L_sortIntoSets_65 ?_
    refine lv_dup2_11 hx hb d_L_sortIntoSets_66 rfl rfl ?_
    obtain ⟨hi, h⟩ := h
    refine zz_lald (f2 := sg_b u 0) cx hw 22 2 rfl rfl hi (sx_ba _ _ _ _) d_L_sortIntoSets_67 ?_
    refine lv_iload_n hx hb d_L_sortIntoSets_68 rfl (lv_at hl 2 rfl) ?_
    refine zz_callSl (As := [.int x1]) (rest := [.long (sg_b u 0 (sg_a u 9 v6.toNatClampNeg).toNatClampNeg), .int (sg_a u 9 v6.toNatClampNeg), .ref (a 22)]) cx hw (ct_L_lowBit l D cI cZ cL a h) (zz_gS kw_80 kw_82 kw_60 kw_81) hd_L_lowBit ⟨rfl, rfl⟩ ⟨Nat.le_of_ble_eq_true rfl, Nat.le_of_ble_eq_true rfl⟩ rfl hl.1 rfl (Nat.le_of_ble_eq_true rfl) d_L_sortIntoSets_69 (fun r8 s7 H locs h hw => ?_)
    refine lv_lor hx hb d_L_sortIntoSets_72 ?_
    refine lv_topl (fun v9 ev9 => ?_)
    replace h := h v9 ev9
    obtain ⟨hi, h⟩ := h
    refine zz_last (ws' := gw_C cI cZ cL a (ss_b s7 0 (vp_updL (sg_b s7 0) (sg_a u 9 v6.toNatClampNeg).toNatClampNeg v9))) cx hw 22 2 rfl rfl hi rfl (gw_C_b0 _ _ _ _ _ _) d_L_sortIntoSets_73 (fun H locs hw => ?_)
    refine lv_aload_n hx hb d_L_sortIntoSets_74 rfl (lv_at hl 1 rfl) ?_
    refine zz_get (v2 := .ref (a 23)) cx hw in_L 2 rfl rfl 6 (by decide) kw_70 rfl rfl d_L_sortIntoSets_75 ?_
    refine lv_aload_n hx hb d_L_sortIntoSets_78 rfl (lv_at hl 1 rfl) ?_
    refine zz_get (v2 := .ref (a 14)) cx hw in_L 2 rfl rfl 1 (by decide) kw_57 rfl rfl d_L_sortIntoSets_79 ?_
    refine lv_iload_n hx hb d_L_sortIntoSets_82 rfl (lv_at hl 0 rfl) ?_
    obtain ⟨hi, h⟩ := h
    refine zz_iald (f2 := sg_a s7 9) cx hw 14 0 rfl rfl hi (sx_ab _ _ _ _) d_L_sortIntoSets_83 ?_
    refine lv_dup2_11 hx hb d_L_sortIntoSets_84 rfl rfl ?_
    obtain ⟨hi, h⟩ := h
    refine zz_lald (f2 := sg_b s7 1) cx hw 23 2 rfl rfl hi (sy_b _ _ (by decide)) d_L_sortIntoSets_85 ?_
    refine lv_iload_n hx hb d_L_sortIntoSets_86 rfl (lv_at hl 2 rfl) ?_
    refine zz_callSl (As := [.int x1]) (rest := [.long (sg_b s7 1 (sg_a s7 9 v6.toNatClampNeg).toNatClampNeg), .int (sg_a s7 9 v6.toNatClampNeg), .ref (a 23)]) cx hw (ct_L_highBit l D cI cZ cL a h) (zz_gS kw_77 kw_79 kw_60 kw_78) hd_L_highBit ⟨rfl, rfl⟩ ⟨Nat.le_of_ble_eq_true rfl, Nat.le_of_ble_eq_true rfl⟩ rfl hl.1 rfl (Nat.le_of_ble_eq_true rfl) d_L_sortIntoSets_87 (fun r11 s10 H locs h hw => ?_)
    refine lv_lor hx hb d_L_sortIntoSets_90 ?_
    refine lv_topl (fun v12 ev12 => ?_)
    replace h := h v12 ev12
    obtain ⟨hi, h⟩ := h
    refine zz_last (ws' := gw_C cI cZ cL a (ss_b s10 1 (vp_updL (sg_b s10 1) (sg_a s7 9 v6.toNatClampNeg).toNatClampNeg v12))) cx hw 23 2 rfl rfl hi rfl (gw_C_b1 _ _ _ _ _ _) d_L_sortIntoSets_91 (fun H locs hw => ?_)
    refine lv_iconst (v := 0) hx hb d_L_sortIntoSets_92 (by decide) ?_
    refine lv_istore_n (lv' := [(3, .int 0), (2, .int v6), (0, .ref (a 2)), (1, .int x1)]) hx hb d_L_sortIntoSets_93 rfl hl (by decide) rfl (fun ls hl => ?_)
    obtain ⟨n, h⟩ := h
    exact wk_L_sortIntoSets_94_f cx post hkn34 n x1 v6 0 (ss_b s10 1 (vp_updL (sg_b s10 1) (sg_a s7 9 v6.toNatClampNeg).toNatClampNeg v12)) _ _ _ hw (lv_sub hl [2, 3, 1, 0] rfl) h
set_option maxRecDepth 100000 in
set_option maxHeartbeats 4000000 in
theorem wk_L_sortIntoSets_34_f {p : Program} {l : Launch} {e : Env} {s : State} {m : MethodId} {args : Array Value} {below : List Frame} {meth : Method} {c : Code} {A : Nat → Prop} {D : va_G} {cI cZ cL : ClassId} {a : Nat → Nat} (cx : zz_Cx p s m args meth c "GridFills$WordList" b_L_sortIntoSets 5 none D zz_cl (zz_ty cI cZ cL) A) (post : zz_St → Prop) : ∀ n : Nat, ∀ (x1 : Int32) (u : zz_St) (H : Heap) (locs : List Loc) (ls : Array Slot), zz_Wd D zz_cl A s.heap H locs (gw_C cI cZ cL a u) → lv_has ls 5 [(0, .ref (a 2)), (1, .int x1)] → wp_L_sortIntoSets_34_f post n x1 u → W p l e (rm_L_sortIntoSets) s m args below meth c H locs 0 0 (MQ below (va_Qv post (zz_B D zz_cl (zz_ty cI cZ cL) (gw_C cI cZ cL a) A) A) args s 0 0 A) (F0 m 34 ls []) := by
  intro n
  induction n with
  | zero => exact fun _ _ _ _ _ _ _ h => False.elim h
  | succ n ih => exact wk_L_sortIntoSets_34 cx post ih
set_option maxRecDepth 100000 in
set_option maxHeartbeats 4000000 in
theorem ct_L_sortIntoSets (l : Launch) (D : va_G) (cI cZ cL : ClassId) (a : Nat → Nat) {u : zz_St} {post : zz_St → Prop} (h : wp_L_sortIntoSets  u post) : zz_MV l y_L_sortIntoSets (.code y_L_sortIntoSets b_L_sortIntoSets 5 none :: zz_tbl) (rm_L_sortIntoSets) D zz_cl (zz_ty cI cZ cL) (gw_C cI cZ cL a) [.ref (a 2)] u post := by
  unfold wp_L_sortIntoSets at h
  refine zz_ofV (by decide) (Nat.le_of_ble_eq_true rfl) ?_
  intro p e s m below meth c A cx hw ls hl
  obtain ⟨hx, hb, hr, hml, hown, hts, hlk, hK, hA⟩ := id cx
  refine lv_aload_n hx hb d_L_sortIntoSets_0 rfl (lv_at hl 0 rfl) ?_
  refine zz_get (v2 := .ref (a 22)) cx hw in_L 2 rfl rfl 5 (by decide) kw_69 rfl rfl d_L_sortIntoSets_1 ?_
  refine lv_lconst (v := 0) hx hb d_L_sortIntoSets_4 (by decide) ?_
  refine zz_callSv (As := [.ref (a 22), .long 0]) (rest := []) cx hw (ct_JA_fillJ_LlowOfLength l D cI cZ cL a h) (zz_gS kw_73 kw_75 kw_32 kw_74) hd_JA_fillJ ⟨rfl, rfl⟩ ⟨Nat.le_of_ble_eq_true rfl, Nat.le_of_ble_eq_true rfl⟩ rfl hl.1 rfl (Nat.le_of_ble_eq_true rfl) d_L_sortIntoSets_5 (fun s1 H locs h hw => ?_)
  refine lv_aload_n hx hb d_L_sortIntoSets_8 rfl (lv_at hl 0 rfl) ?_
  refine zz_get (v2 := .ref (a 23)) cx hw in_L 2 rfl rfl 6 (by decide) kw_70 rfl rfl d_L_sortIntoSets_9 ?_
  refine lv_lconst (v := 0) hx hb d_L_sortIntoSets_12 (by decide) ?_
  refine zz_callSv (As := [.ref (a 23), .long 0]) (rest := []) cx hw (ct_JA_fillJ_LhighOfLength l D cI cZ cL a h) (zz_gS kw_73 kw_75 kw_32 kw_74) hd_JA_fillJ ⟨rfl, rfl⟩ ⟨Nat.le_of_ble_eq_true rfl, Nat.le_of_ble_eq_true rfl⟩ rfl hl.1 rfl (Nat.le_of_ble_eq_true rfl) d_L_sortIntoSets_13 (fun s2 H locs h hw => ?_)
  refine lv_aload_n hx hb d_L_sortIntoSets_16 rfl (lv_at hl 0 rfl) ?_
  refine zz_get (v2 := .ref (a 24)) cx hw in_L 2 rfl rfl 7 (by decide) kw_71 rfl rfl d_L_sortIntoSets_17 ?_
  refine lv_lconst (v := 0) hx hb d_L_sortIntoSets_20 (by decide) ?_
  refine zz_callSv (As := [.ref (a 24), .long 0]) (rest := []) cx hw (ct_JA_fillJ_LlowOfKey l D cI cZ cL a h) (zz_gS kw_73 kw_75 kw_32 kw_74) hd_JA_fillJ ⟨rfl, rfl⟩ ⟨Nat.le_of_ble_eq_true rfl, Nat.le_of_ble_eq_true rfl⟩ rfl hl.1 rfl (Nat.le_of_ble_eq_true rfl) d_L_sortIntoSets_21 (fun s3 H locs h hw => ?_)
  refine lv_aload_n hx hb d_L_sortIntoSets_24 rfl (lv_at hl 0 rfl) ?_
  refine zz_get (v2 := .ref (a 25)) cx hw in_L 2 rfl rfl 8 (by decide) kw_72 rfl rfl d_L_sortIntoSets_25 ?_
  refine lv_lconst (v := 0) hx hb d_L_sortIntoSets_28 (by decide) ?_
  refine zz_callSv (As := [.ref (a 25), .long 0]) (rest := []) cx hw (ct_JA_fillJ_LhighOfKey l D cI cZ cL a h) (zz_gS kw_73 kw_75 kw_32 kw_74) hd_JA_fillJ ⟨rfl, rfl⟩ ⟨Nat.le_of_ble_eq_true rfl, Nat.le_of_ble_eq_true rfl⟩ rfl hl.1 rfl (Nat.le_of_ble_eq_true rfl) d_L_sortIntoSets_29 (fun s4 H locs h hw => ?_)
  refine lv_iconst (v := 0) hx hb d_L_sortIntoSets_32 (by decide) ?_
  refine lv_istore_n (lv' := [(1, .int 0), (0, .ref (a 2))]) hx hb d_L_sortIntoSets_33 rfl hl (by decide) rfl (fun ls hl => ?_)
  obtain ⟨n, h⟩ := h
  exact wk_L_sortIntoSets_34_f cx post  n 0 s4 _ _ _ hw (lv_sub hl [1, 0] rfl) h
set_option maxRecDepth 100000 in
set_option maxHeartbeats 4000000 in
theorem ct_L_wordFromCollected (l : Launch) (D : va_G) (cI cZ cL : ClassId) (a : Nat → Nat) {a0 : Int32} {u : zz_St} {post : Int32 → zz_St → Prop} (h : wp_L_wordFromCollected  a0 u post) : zz_MI l y_L_wordFromCollected (.code y_L_wordFromCollected b_L_wordFromCollected 3 (some .int) :: zz_tbl) (rm_L_wordFromCollected) D zz_cl (zz_ty cI cZ cL) (gw_C cI cZ cL a) [.ref (a 2), .int a0] u post := by
  unfold wp_L_wordFromCollected at h
  refine zz_ofI (by decide) (Nat.le_of_ble_eq_true rfl) ?_
  intro p e s m below meth c A cx hw ls hl
  obtain ⟨hx, hb, hr, hml, hown, hts, hlk, hK, hA⟩ := id cx
  refine lv_aload_n hx hb d_L_wordFromCollected_0 rfl (lv_at hl 0 rfl) ?_
  refine zz_get (v2 := .int (sg_i u 5)) cx hw in_L 2 rfl rfl 11 (by decide) kw_55 rfl rfl d_L_wordFromCollected_1 ?_
  refine lv_iconst (v := 2) hx hb d_L_wordFromCollected_4 (by decide) ?_
  refine lv_icmp_lt (tgt := 35) hx hb d_L_wordFromCollected_5 (by decide) (fun c1 => ?_) (fun c1 => ?_)
  · replace h := h.1 c1
    refine lv_iconst (v := (-1)) hx hb d_L_wordFromCollected_35 (by decide) ?_
    exact zz_reti cx hw d_L_wordFromCollected_36 h
  · replace h := h.2 c1
    refine lv_iload_n hx hb d_L_wordFromCollected_8 rfl (lv_at hl 1 rfl) ?_
    refine lv_if_lt (tgt := 35) hx hb d_L_wordFromCollected_9 (by decide) (fun c2 => ?_) (fun c2 => ?_)
    · replace h := h.1 c2
      refine lv_iconst (v := (-1)) hx hb d_L_wordFromCollected_35 (by decide) ?_
      exact zz_reti cx hw d_L_wordFromCollected_36 h
    · replace h := h.2 c2
      refine lv_iload_n hx hb d_L_wordFromCollected_12 rfl (lv_at hl 1 rfl) ?_
      refine lv_sipush (v := 1000) hx hb d_L_wordFromCollected_13 (by decide) ?_
      refine lv_icmp_gt (tgt := 35) hx hb d_L_wordFromCollected_16 (by decide) (fun c3 => ?_) (fun c3 => ?_)
      · replace h := h.1 c3
        refine lv_iconst (v := (-1)) hx hb d_L_wordFromCollected_35 (by decide) ?_
        exact zz_reti cx hw d_L_wordFromCollected_36 h
      · replace h := h.2 c3
        refine lv_aload_n hx hb d_L_wordFromCollected_19 rfl (lv_at hl 0 rfl) ?_
        refine zz_get (v2 := .int (sg_i u 4)) cx hw in_L 2 rfl rfl 0 (by decide) kw_53 rfl rfl d_L_wordFromCollected_20 ?_
        refine lv_bipush (v := 80) hx hb d_L_wordFromCollected_23 (by decide) ?_
        refine lv_icmp_ge (tgt := 35) hx hb d_L_wordFromCollected_25 (by decide) (fun c4 => ?_) (fun c4 => ?_)
        · replace h := h.1 c4
          refine lv_iconst (v := (-1)) hx hb d_L_wordFromCollected_35 (by decide) ?_
          exact zz_reti cx hw d_L_wordFromCollected_36 h
        · replace h := h.2 c4
          refine lv_aload_n hx hb d_L_wordFromCollected_28 rfl (lv_at hl 0 rfl) ?_
          refine zz_callVi (As := []) (rest := []) cx hw (ct_L_isThere l D cI cZ cL a h) (zz_gV kw_98 kw_100 kw_101 kw_60 kw_99) hd_L_isThere ⟨rfl, rfl⟩ ⟨Nat.le_of_ble_eq_true rfl, Nat.le_of_ble_eq_true rfl⟩ 2 rfl rfl rfl rfl hl.1 rfl (Nat.le_of_ble_eq_true rfl) d_L_wordFromCollected_29 (fun r6 s5 H locs h hw => ?_)
          refine lv_if_eq (tgt := 37) hx hb d_L_wordFromCollected_32 (by decide) (fun c7 => ?_) (fun c7 => ?_)
          · replace h := h.1 c7
            refine lv_aload_n hx hb d_L_wordFromCollected_37 rfl (lv_at hl 0 rfl) ?_
            refine zz_get (v2 := .int (sg_i s5 4)) cx hw in_L 2 rfl rfl 0 (by decide) kw_53 rfl rfl d_L_wordFromCollected_38 ?_
            refine lv_topi (fun v8 ev8 => ?_)
            replace h := h v8 ev8
            refine lv_istore_n (lv' := [(2, .int v8), (0, .ref (a 2)), (1, .int a0)]) hx hb d_L_wordFromCollected_41 rfl hl (by decide) rfl (fun ls hl => ?_)
            refine lv_aload_n hx hb d_L_wordFromCollected_42 rfl (lv_at hl 1 rfl) ?_
            refine zz_get (v2 := .ref (a 14)) cx hw in_L 2 rfl rfl 1 (by decide) kw_57 rfl rfl d_L_wordFromCollected_43 ?_
            refine lv_iload_n hx hb d_L_wordFromCollected_46 rfl (lv_at hl 0 rfl) ?_
            refine lv_aload_n hx hb d_L_wordFromCollected_47 rfl (lv_at hl 1 rfl) ?_
            refine zz_get (v2 := .int (sg_i s5 5)) cx hw in_L 2 rfl rfl 11 (by decide) kw_55 rfl rfl d_L_wordFromCollected_48 ?_
            refine lv_topi (fun v9 ev9 => ?_)
            replace h := h v9 ev9
            obtain ⟨hi, h⟩ := h
            refine zz_iast (ws' := gw_C cI cZ cL a (ss_a s5 9 (upd (sg_a s5 9) v8.toNatClampNeg v9))) cx hw 14 0 rfl rfl hi rfl (gw_C_a9 _ _ _ _ _ _) d_L_wordFromCollected_51 (fun H locs hw => ?_)
            refine lv_aload_n hx hb d_L_wordFromCollected_52 rfl (lv_at hl 1 rfl) ?_
            refine zz_get (v2 := .ref (a 15)) cx hw in_L 2 rfl rfl 2 (by decide) kw_67 rfl rfl d_L_wordFromCollected_53 ?_
            refine lv_iload_n hx hb d_L_wordFromCollected_56 rfl (lv_at hl 0 rfl) ?_
            refine lv_iload_n hx hb d_L_wordFromCollected_57 rfl (lv_at hl 2 rfl) ?_
            obtain ⟨hi, h⟩ := h
            refine zz_iast (ws' := gw_C cI cZ cL a (ss_a (ss_a s5 9 (upd (sg_a s5 9) v8.toNatClampNeg v9)) 10 (upd (sg_a s5 10) v8.toNatClampNeg a0))) cx hw 15 0 rfl rfl hi (sy_a _ _ (by decide)) (gw_C_a10 _ _ _ _ _ _) d_L_wordFromCollected_58 (fun H locs hw => ?_)
            refine lv_aload_n hx hb d_L_wordFromCollected_59 rfl (lv_at hl 1 rfl) ?_
            refine zz_get (v2 := .ref (a 19)) cx hw in_L 2 rfl rfl 10 (by decide) kw_56 rfl rfl d_L_wordFromCollected_60 ?_
            refine lv_iconst (v := 0) hx hb d_L_wordFromCollected_63 (by decide) ?_
            refine lv_aload_n hx hb d_L_wordFromCollected_64 rfl (lv_at hl 1 rfl) ?_
            refine zz_get (v2 := .ref (a 18)) cx hw in_L 2 rfl rfl 9 (by decide) kw_54 rfl rfl d_L_wordFromCollected_65 ?_
            refine lv_iload_n hx hb d_L_wordFromCollected_68 rfl (lv_at hl 0 rfl) ?_
            refine lv_bipush (v := 6) hx hb d_L_wordFromCollected_69 (by decide) ?_
            refine lv_imul hx hb d_L_wordFromCollected_71 ?_
            refine lv_aload_n hx hb d_L_wordFromCollected_72 rfl (lv_at hl 1 rfl) ?_
            refine zz_get (v2 := .int (sg_i s5 5)) cx hw in_L 2 rfl rfl 11 (by decide) kw_55 rfl (congrArg Value.int ((sx_ia _ _ _ _).trans (sx_ia _ _ _ _))) d_L_wordFromCollected_73 ?_
            obtain ⟨h1, h2, h3, h4, h5, h⟩ := h
            refine zz_copyi (ws' := gw_C cI cZ cL a (ss_a (ss_a (ss_a s5 9 (upd (sg_a s5 9) v8.toNatClampNeg v9)) 10 (upd (sg_a s5 10) v8.toNatClampNeg a0)) 13 (va_cpy (sg_a s5 14) (sg_a s5 13) (0 : Int32).toNatClampNeg (v8 * 6).toNatClampNeg (sg_i s5 5).toNatClampNeg))) cx hw hl.1 kw_86 kw_87 kw_88 kw_89 19 18 0 rfl rfl rfl rfl (fun _ => rfl) ((sy_a _ _ (by decide)).trans (sy_a _ _ (by decide))) ((sy_a _ _ (by decide)).trans (sy_a _ _ (by decide))) h1 h2 h3 h4 h5 (Nat.le_of_ble_eq_true rfl) (Nat.le_of_ble_eq_true rfl) (gw_C_a13 _ _ _ _ _ _) d_L_wordFromCollected_76 (fun H locs hw => ?_)
            refine lv_aload_n hx hb d_L_wordFromCollected_79 rfl (lv_at hl 1 rfl) ?_
            refine lv_iload_n hx hb d_L_wordFromCollected_80 rfl (lv_at hl 0 rfl) ?_
            refine zz_callVv (As := [.int v8]) (rest := []) cx hw (ct_L_rank l D cI cZ cL a h) (zz_gV kw_94 kw_96 kw_97 kw_60 kw_95) hd_L_rank ⟨rfl, rfl⟩ ⟨Nat.le_of_ble_eq_true rfl, Nat.le_of_ble_eq_true rfl⟩ 2 rfl rfl rfl rfl hl.1 rfl (Nat.le_of_ble_eq_true rfl) d_L_wordFromCollected_81 (fun s10 H locs h hw => ?_)
            refine lv_aload_n hx hb d_L_wordFromCollected_84 rfl (lv_at hl 1 rfl) ?_
            refine lv_dup hx hb d_L_wordFromCollected_85 rfl ?_
            refine zz_get (v2 := .int (sg_i s10 4)) cx hw in_L 2 rfl rfl 0 (by decide) kw_53 rfl rfl d_L_wordFromCollected_86 ?_
            refine lv_iconst (v := 1) hx hb d_L_wordFromCollected_89 (by decide) ?_
            refine lv_iadd hx hb d_L_wordFromCollected_90 ?_
            refine lv_topi (fun v11 ev11 => ?_)
            replace h := h v11 ev11
            refine zz_put (v := .int v11) (ws' := gw_C cI cZ cL a (ss_i s10 4 v11)) cx hw in_L ty_L tk_L nm_L 2 rfl rfl 0 (by decide) kw_53 rfl ⟨rfl, rfl⟩ (Nat.le_of_ble_eq_true rfl) (gw_C_i4 _ _ _ _ _ _) d_L_wordFromCollected_91 (fun H locs hw => ?_)
            refine lv_aload_n hx hb d_L_wordFromCollected_94 rfl (lv_at hl 1 rfl) ?_
            refine zz_callVv (As := []) (rest := []) cx hw (ct_L_sortIntoSets l D cI cZ cL a h) (zz_gV kw_90 kw_92 kw_93 kw_60 kw_91) hd_L_sortIntoSets ⟨rfl, rfl⟩ ⟨Nat.le_of_ble_eq_true rfl, Nat.le_of_ble_eq_true rfl⟩ 2 rfl rfl rfl rfl hl.1 rfl (Nat.le_of_ble_eq_true rfl) d_L_wordFromCollected_95 (fun s12 H locs h hw => ?_)
            refine lv_iload_n hx hb d_L_wordFromCollected_98 rfl (lv_at hl 0 rfl) ?_
            exact zz_reti cx hw d_L_wordFromCollected_99 h
          · replace h := h.2 c7
            refine lv_iconst (v := (-1)) hx hb d_L_wordFromCollected_35 (by decide) ?_
            exact zz_reti cx hw d_L_wordFromCollected_36 h
