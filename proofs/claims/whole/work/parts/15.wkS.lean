set_option maxRecDepth 100000 in
set_option maxHeartbeats 4000000 in
theorem ct_S_narrow (l : Launch) (D : va_G) (cI cZ cL : ClassId) (a : Nat → Nat) {a0 : Int32} {a1 : Int32} {u : zz_St} {post : zz_St → Prop} (h : wp_S_narrow  a0 a1 u post) : zz_MV l y_S_narrow (.code y_S_narrow b_S_narrow 3 none :: zz_tbl) (rm_S_narrow) D zz_cl (zz_ty cI cZ cL) (gw_C cI cZ cL a) [.ref (a 4), .int a0, .int a1] u post := by
  unfold wp_S_narrow at h
  refine zz_ofV (by decide) (Nat.le_of_ble_eq_true rfl) ?_
  intro p e s m below meth c A cx hw ls hl
  obtain ⟨hx, hb, hr, hml, hown, hts, hlk, hK, hA⟩ := id cx
  refine lv_aload_n hx hb d_S_narrow_0 rfl (lv_at hl 0 rfl) ?_
  refine zz_get (v2 := .ref (a 26)) cx hw in_S 4 rfl rfl 3 (by decide) kw_134 rfl rfl d_S_narrow_1 ?_
  refine lv_iload_n hx hb d_S_narrow_4 rfl (lv_at hl 1 rfl) ?_
  refine lv_dup2_11 hx hb d_S_narrow_5 rfl rfl ?_
  obtain ⟨hi, h⟩ := h
  refine zz_lald (f2 := sg_b u 4) cx hw 26 2 rfl rfl hi rfl d_S_narrow_6 ?_
  refine lv_aload_n hx hb d_S_narrow_7 rfl (lv_at hl 0 rfl) ?_
  refine zz_get (v2 := .ref (a 2)) cx hw in_S 4 rfl rfl 1 (by decide) kw_135 rfl rfl d_S_narrow_8 ?_
  refine zz_get (v2 := .ref (a 24)) cx hw in_L 2 rfl rfl 7 (by decide) kw_136 rfl rfl d_S_narrow_11 ?_
  refine lv_iload_n hx hb d_S_narrow_14 rfl (lv_at hl 2 rfl) ?_
  obtain ⟨hi, h⟩ := h
  refine zz_lald (f2 := sg_b u 2) cx hw 24 2 rfl rfl hi rfl d_S_narrow_15 ?_
  refine lv_land hx hb d_S_narrow_16 ?_
  refine lv_topl (fun v1 ev1 => ?_)
  replace h := h v1 ev1
  obtain ⟨hi, h⟩ := h
  refine zz_last (ws' := gw_C cI cZ cL a (ss_b u 4 (vp_updL (sg_b u 4) a0.toNatClampNeg v1))) cx hw 26 2 rfl rfl hi rfl (gw_C_b4 _ _ _ _ _ _) d_S_narrow_17 (fun H locs hw => ?_)
  refine lv_aload_n hx hb d_S_narrow_18 rfl (lv_at hl 0 rfl) ?_
  refine zz_get (v2 := .ref (a 27)) cx hw in_S 4 rfl rfl 4 (by decide) kw_137 rfl rfl d_S_narrow_19 ?_
  refine lv_iload_n hx hb d_S_narrow_22 rfl (lv_at hl 1 rfl) ?_
  refine lv_dup2_11 hx hb d_S_narrow_23 rfl rfl ?_
  obtain ⟨hi, h⟩ := h
  refine zz_lald (f2 := sg_b u 5) cx hw 27 2 rfl rfl hi (sy_b _ _ (by decide)) d_S_narrow_24 ?_
  refine lv_aload_n hx hb d_S_narrow_25 rfl (lv_at hl 0 rfl) ?_
  refine zz_get (v2 := .ref (a 2)) cx hw in_S 4 rfl rfl 1 (by decide) kw_135 rfl rfl d_S_narrow_26 ?_
  refine zz_get (v2 := .ref (a 25)) cx hw in_L 2 rfl rfl 8 (by decide) kw_138 rfl rfl d_S_narrow_29 ?_
  refine lv_iload_n hx hb d_S_narrow_32 rfl (lv_at hl 2 rfl) ?_
  obtain ⟨hi, h⟩ := h
  refine zz_lald (f2 := sg_b u 3) cx hw 25 2 rfl rfl hi (sy_b _ _ (by decide)) d_S_narrow_33 ?_
  refine lv_land hx hb d_S_narrow_34 ?_
  refine lv_topl (fun v2 ev2 => ?_)
  replace h := h v2 ev2
  obtain ⟨hi, h⟩ := h
  refine zz_last (ws' := gw_C cI cZ cL a (ss_b (ss_b u 4 (vp_updL (sg_b u 4) a0.toNatClampNeg v1)) 5 (vp_updL (sg_b u 5) a0.toNatClampNeg v2))) cx hw 27 2 rfl rfl hi (sy_b _ _ (by decide)) (gw_C_b5 _ _ _ _ _ _) d_S_narrow_35 (fun H locs hw => ?_)
  exact zz_retv cx hw d_S_narrow_36 h
set_option maxRecDepth 100000 in
set_option maxHeartbeats 4000000 in
theorem wk_S_openSlot_82 {p : Program} {l : Launch} {e : Env} {s : State} {m : MethodId} {args : Array Value} {below : List Frame} {meth : Method} {c : Code} {A : Nat → Prop} {D : va_G} {cI cZ cL : ClassId} {a : Nat → Nat} (cx : zz_Cx p s m args meth c "GridFills$Search" b_S_openSlot 5 none D zz_cl (zz_ty cI cZ cL) A) (post : zz_St → Prop) {kn42 : Int32 → Int32 → Int32 → zz_St → Prop} (hkn42 : ∀ (x1 : Int32) (x2 : Int32) (x3 : Int32) (u : zz_St) (H : Heap) (locs : List Loc) (ls : Array Slot), zz_Wd D zz_cl A s.heap H locs (gw_C cI cZ cL a u) → lv_has ls 5 [(0, .ref (a 4)), (1, .int x1), (2, .int x2), (3, .int x3)] → kn42 x1 x2 x3 u → W p l e (rm_S_openSlot) s m args below meth c H locs 0 0 (MQ below (va_Qv post (zz_B D zz_cl (zz_ty cI cZ cL) (gw_C cI cZ cL a) A) A) args s 0 0 A) (F0 m 42 ls [])) : ∀ (x1 : Int32) (x2 : Int32) (x3 : Int32) (u : zz_St) (H : Heap) (locs : List Loc) (ls : Array Slot), zz_Wd D zz_cl A s.heap H locs (gw_C cI cZ cL a u) → lv_has ls 5 [(0, .ref (a 4)), (1, .int x1), (2, .int x2), (3, .int x3)] → wp_S_openSlot_82 post kn42 x1 x2 x3 u → W p l e (rm_S_openSlot) s m args below meth c H locs 0 0 (MQ below (va_Qv post (zz_B D zz_cl (zz_ty cI cZ cL) (gw_C cI cZ cL a) A) A) args s 0 0 A) (F0 m 82 ls []) := by
  intro x1 x2 x3 u H locs ls hw hl h
  unfold wp_S_openSlot_82 at h
  obtain ⟨hx, hb, hr, hml, hown, hts, hlk, hK, hA⟩ := id cx
  refine lv_iinc (v := x3 + 1) (lv' := [(3, .int (x3 + 1)), (0, .ref (a 4)), (1, .int x1), (2, .int x2)]) hx hb d_S_openSlot_82 hl (k := 3) rfl rfl (by decide) rfl (fun ls hl => ?_)
  refine lv_goto (tgt := 42) hx hb d_S_openSlot_85 (by decide) ?_
  exact hkn42 x1 x2 (x3 + 1) u _ _ _ hw (lv_sub hl [1, 2, 3, 0] rfl) h
set_option maxRecDepth 100000 in
set_option maxHeartbeats 4000000 in
theorem wk_S_openSlot_42 {p : Program} {l : Launch} {e : Env} {s : State} {m : MethodId} {args : Array Value} {below : List Frame} {meth : Method} {c : Code} {A : Nat → Prop} {D : va_G} {cI cZ cL : ClassId} {a : Nat → Nat} (cx : zz_Cx p s m args meth c "GridFills$Search" b_S_openSlot 5 none D zz_cl (zz_ty cI cZ cL) A) (post : zz_St → Prop) {kn42 : Int32 → Int32 → Int32 → zz_St → Prop} (hkn42 : ∀ (x1 : Int32) (x2 : Int32) (x3 : Int32) (u : zz_St) (H : Heap) (locs : List Loc) (ls : Array Slot), zz_Wd D zz_cl A s.heap H locs (gw_C cI cZ cL a u) → lv_has ls 5 [(0, .ref (a 4)), (1, .int x1), (2, .int x2), (3, .int x3)] → kn42 x1 x2 x3 u → W p l e (rm_S_openSlot) s m args below meth c H locs 0 0 (MQ below (va_Qv post (zz_B D zz_cl (zz_ty cI cZ cL) (gw_C cI cZ cL a) A) A) args s 0 0 A) (F0 m 42 ls [])) : ∀ (x1 : Int32) (x2 : Int32) (x3 : Int32) (u : zz_St) (H : Heap) (locs : List Loc) (ls : Array Slot), zz_Wd D zz_cl A s.heap H locs (gw_C cI cZ cL a u) → lv_has ls 5 [(0, .ref (a 4)), (1, .int x1), (2, .int x2), (3, .int x3)] → wp_S_openSlot_42 post kn42 x1 x2 x3 u → W p l e (rm_S_openSlot) s m args below meth c H locs 0 0 (MQ below (va_Qv post (zz_B D zz_cl (zz_ty cI cZ cL) (gw_C cI cZ cL a) A) A) args s 0 0 A) (F0 m 42 ls []) := by
  intro x1 x2 x3 u H locs ls hw hl h
  unfold wp_S_openSlot_42 at h
  obtain ⟨hx, hb, hr, hml, hown, hts, hlk, hK, hA⟩ := id cx
  refine lv_iload_n hx hb d_S_openSlot_42 rfl (lv_at hl 3 rfl) ?_
  refine lv_iload_n hx hb d_S_openSlot_43 rfl (lv_at hl 2 rfl) ?_
  refine lv_icmp_ge (tgt := 88) hx hb d_S_openSlot_44 (by decide) (fun c4 => ?_) (fun c4 => ?_)
  · replace h := h.1 c4
    refine lv_aload_n hx hb d_S_openSlot_88 rfl (lv_at hl 0 rfl) ?_
    refine zz_get (v2 := .ref (a 1)) cx hw in_S 4 rfl rfl 0 (by decide) kw_139 rfl rfl d_S_openSlot_89 ?_
    refine zz_get (v2 := .ref (a 10)) cx hw in_G 1 rfl rfl 9 (by decide) kw_143 rfl rfl d_S_openSlot_92 ?_
    refine lv_iload_n hx hb d_S_openSlot_95 rfl (lv_at hl 1 rfl) ?_
    obtain ⟨hi, h⟩ := h
    refine zz_iald (f2 := sg_a u 5) cx hw 10 0 rfl rfl hi rfl d_S_openSlot_96 ?_
    refine lv_topi (fun v5 ev5 => ?_)
    replace h := h v5 ev5
    refine lv_istore_n (lv' := [(3, .int v5), (0, .ref (a 4)), (1, .int x1), (2, .int x2)]) hx hb d_S_openSlot_97 rfl hl (by decide) rfl (fun ls hl => ?_)
    refine lv_iload_n hx hb d_S_openSlot_98 rfl (lv_at hl 0 rfl) ?_
    refine lv_iconst (v := (-1)) hx hb d_S_openSlot_99 (by decide) ?_
    refine lv_icmp_eq (tgt := 145) hx hb d_S_openSlot_100 (by decide) (fun c6 => ?_) (fun c6 => ?_)
    · replace h := h.1 c6
      exact zz_retv cx hw d_S_openSlot_145 h
    · replace h := h.2 c6
      refine lv_aload_n hx hb d_S_openSlot_103 rfl (lv_at hl 1 rfl) ?_
      refine zz_get (v2 := .ref (a 26)) cx hw in_S 4 rfl rfl 3 (by decide) kw_134 rfl rfl d_S_openSlot_104 ?_
      refine lv_iload_n hx hb d_S_openSlot_107 rfl (lv_at hl 2 rfl) ?_
      refine lv_dup2_11 hx hb d_S_openSlot_108 rfl rfl ?_
      obtain ⟨hi, h⟩ := h
      refine zz_lald (f2 := sg_b u 4) cx hw 26 2 rfl rfl hi rfl d_S_openSlot_109 ?_
      refine lv_aload_n hx hb d_S_openSlot_110 rfl (lv_at hl 1 rfl) ?_
      refine zz_get (v2 := .ref (a 2)) cx hw in_S 4 rfl rfl 1 (by decide) kw_135 rfl rfl d_S_openSlot_111 ?_
      refine zz_get (v2 := .ref (a 17)) cx hw in_L 2 rfl rfl 4 (by decide) kw_144 rfl rfl d_S_openSlot_114 ?_
      refine lv_iload_n hx hb d_S_openSlot_117 rfl (lv_at hl 0 rfl) ?_
      obtain ⟨hi, h⟩ := h
      refine zz_iald (f2 := sg_a u 12) cx hw 17 0 rfl rfl hi rfl d_S_openSlot_118 ?_
      refine zz_callSl (As := [.int (sg_a u 12 v5.toNatClampNeg)]) (rest := [.long (sg_b u 4 x1.toNatClampNeg), .int x1, .ref (a 26)]) cx hw (ct_L_lowBit l D cI cZ cL a h) (zz_gS kw_146 kw_82 kw_60 kw_81) hd_L_lowBit ⟨rfl, rfl⟩ ⟨Nat.le_of_ble_eq_true rfl, Nat.le_of_ble_eq_true rfl⟩ rfl hl.1 rfl (Nat.le_of_ble_eq_true rfl) d_S_openSlot_119 (fun r8 s7 H locs h hw => ?_)
      refine lv_land hx hb d_S_openSlot_122 ?_
      refine lv_topl (fun v9 ev9 => ?_)
      replace h := h v9 ev9
      obtain ⟨hi, h⟩ := h
      refine zz_last (ws' := gw_C cI cZ cL a (ss_b s7 4 (vp_updL (sg_b s7 4) x1.toNatClampNeg v9))) cx hw 26 2 rfl rfl hi rfl (gw_C_b4 _ _ _ _ _ _) d_S_openSlot_123 (fun H locs hw => ?_)
      refine lv_aload_n hx hb d_S_openSlot_124 rfl (lv_at hl 1 rfl) ?_
      refine zz_get (v2 := .ref (a 27)) cx hw in_S 4 rfl rfl 4 (by decide) kw_137 rfl rfl d_S_openSlot_125 ?_
      refine lv_iload_n hx hb d_S_openSlot_128 rfl (lv_at hl 2 rfl) ?_
      refine lv_dup2_11 hx hb d_S_openSlot_129 rfl rfl ?_
      obtain ⟨hi, h⟩ := h
      refine zz_lald (f2 := sg_b s7 5) cx hw 27 2 rfl rfl hi (sy_b _ _ (by decide)) d_S_openSlot_130 ?_
      refine lv_aload_n hx hb d_S_openSlot_131 rfl (lv_at hl 1 rfl) ?_
      refine zz_get (v2 := .ref (a 2)) cx hw in_S 4 rfl rfl 1 (by decide) kw_135 rfl rfl d_S_openSlot_132 ?_
      refine zz_get (v2 := .ref (a 17)) cx hw in_L 2 rfl rfl 4 (by decide) kw_144 rfl rfl d_S_openSlot_135 ?_
      refine lv_iload_n hx hb d_S_openSlot_138 rfl (lv_at hl 0 rfl) ?_
      obtain ⟨hi, h⟩ := h
      refine zz_iald (f2 := sg_a s7 12) cx hw 17 0 rfl rfl hi (sx_ab _ _ _ _) d_S_openSlot_139 ?_
      refine zz_callSl (As := [.int (sg_a s7 12 v5.toNatClampNeg)]) (rest := [.long (sg_b s7 5 x1.toNatClampNeg), .int x1, .ref (a 27)]) cx hw (ct_L_highBit l D cI cZ cL a h) (zz_gS kw_145 kw_79 kw_60 kw_78) hd_L_highBit ⟨rfl, rfl⟩ ⟨Nat.le_of_ble_eq_true rfl, Nat.le_of_ble_eq_true rfl⟩ rfl hl.1 rfl (Nat.le_of_ble_eq_true rfl) d_S_openSlot_140 (fun r11 s10 H locs h hw => ?_)
      refine lv_land hx hb d_S_openSlot_143 ?_
      refine lv_topl (fun v12 ev12 => ?_)
      replace h := h v12 ev12
      obtain ⟨hi, h⟩ := h
      refine zz_last (ws' := gw_C cI cZ cL a (ss_b s10 5 (vp_updL (sg_b s10 5) x1.toNatClampNeg v12))) cx hw 27 2 rfl rfl hi rfl (gw_C_b5 _ _ _ _ _ _) d_S_openSlot_144 (fun H locs hw => ?_)
      exact zz_retv cx hw d_S_openSlot_145 h
  · replace h := h.2 c4
    refine lv_aload_n hx hb d_S_openSlot_47 rfl (lv_at hl 0 rfl) ?_
    refine zz_get (v2 := .ref (a 1)) cx hw in_S 4 rfl rfl 0 (by decide) kw_139 rfl rfl d_S_openSlot_48 ?_
    refine zz_get (v2 := .ref (a 6)) cx hw in_G 1 rfl rfl 4 (by decide) kw_147 rfl rfl d_S_openSlot_51 ?_
    refine lv_aload_n hx hb d_S_openSlot_54 rfl (lv_at hl 0 rfl) ?_
    refine zz_get (v2 := .ref (a 1)) cx hw in_S 4 rfl rfl 0 (by decide) kw_139 rfl rfl d_S_openSlot_55 ?_
    refine lv_iload_n hx hb d_S_openSlot_58 rfl (lv_at hl 1 rfl) ?_
    refine lv_iload_n hx hb d_S_openSlot_59 rfl (lv_at hl 3 rfl) ?_
    refine zz_callVi (As := [.int x1, .int x3]) (rest := [.ref (a 6)]) cx hw (ct_G_cellOf l D cI cZ cL a h) (zz_gV kw_154 kw_19 kw_20 kw_13 kw_18) hd_G_cellOf ⟨rfl, rfl⟩ ⟨Nat.le_of_ble_eq_true rfl, Nat.le_of_ble_eq_true rfl⟩ 1 rfl rfl rfl rfl hl.1 rfl (Nat.le_of_ble_eq_true rfl) d_S_openSlot_60 (fun r14 s13 H locs h hw => ?_)
    obtain ⟨hi, h⟩ := h
    refine zz_iald (f2 := sg_a s13 1) cx hw 6 0 rfl rfl hi rfl d_S_openSlot_63 ?_
    refine lv_topi (fun v15 ev15 => ?_)
    replace h := h v15 ev15
    refine lv_istore (lv' := [(4, .int v15), (0, .ref (a 4)), (1, .int x1), (2, .int x2), (3, .int x3)]) hx hb d_S_openSlot_64 hl (by decide) rfl (fun ls hl => ?_)
    refine lv_iload hx hb d_S_openSlot_66 (lv_at hl 0 rfl) ?_
    refine lv_if_eq (tgt := 82) hx hb d_S_openSlot_68 (by decide) (fun c16 => ?_) (fun c16 => ?_)
    · replace h := h.1 c16
      exact wk_S_openSlot_82 cx post hkn42 x1 x2 x3 s13 _ _ _ hw (lv_sub hl [1, 2, 3, 4] rfl) h
    · replace h := h.2 c16
      refine lv_aload_n hx hb d_S_openSlot_71 rfl (lv_at hl 1 rfl) ?_
      refine lv_iload_n hx hb d_S_openSlot_72 rfl (lv_at hl 2 rfl) ?_
      refine lv_iload_n hx hb d_S_openSlot_73 rfl (lv_at hl 4 rfl) ?_
      refine lv_iload hx hb d_S_openSlot_74 (lv_at hl 0 rfl) ?_
      refine zz_callSi (As := [.int x3, .int v15]) (rest := [.int x1, .ref (a 4)]) cx hw (ct_L_keyOf l D cI cZ cL a h) (zz_gS kw_153 kw_85 kw_60 kw_84) hd_L_keyOf ⟨rfl, rfl⟩ ⟨Nat.le_of_ble_eq_true rfl, Nat.le_of_ble_eq_true rfl⟩ rfl hl.1 rfl (Nat.le_of_ble_eq_true rfl) d_S_openSlot_76 (fun r18 s17 H locs h hw => ?_)
      refine zz_callVv (As := [.int x1, .int r18]) (rest := []) cx hw (ct_S_narrow l D cI cZ cL a h) (zz_gV kw_148 kw_151 kw_152 kw_150 kw_149) hd_S_narrow ⟨rfl, rfl⟩ ⟨Nat.le_of_ble_eq_true rfl, Nat.le_of_ble_eq_true rfl⟩ 4 rfl rfl rfl rfl hl.1 rfl (Nat.le_of_ble_eq_true rfl) d_S_openSlot_79 (fun s19 H locs h hw => ?_)
      exact wk_S_openSlot_82 cx post hkn42 x1 x2 x3 s19 _ _ _ hw (lv_sub hl [1, 2, 3, 4] rfl) h
set_option maxRecDepth 100000 in
set_option maxHeartbeats 4000000 in
theorem wk_S_openSlot_42_f {p : Program} {l : Launch} {e : Env} {s : State} {m : MethodId} {args : Array Value} {below : List Frame} {meth : Method} {c : Code} {A : Nat → Prop} {D : va_G} {cI cZ cL : ClassId} {a : Nat → Nat} (cx : zz_Cx p s m args meth c "GridFills$Search" b_S_openSlot 5 none D zz_cl (zz_ty cI cZ cL) A) (post : zz_St → Prop) : ∀ n : Nat, ∀ (x1 : Int32) (x2 : Int32) (x3 : Int32) (u : zz_St) (H : Heap) (locs : List Loc) (ls : Array Slot), zz_Wd D zz_cl A s.heap H locs (gw_C cI cZ cL a u) → lv_has ls 5 [(0, .ref (a 4)), (1, .int x1), (2, .int x2), (3, .int x3)] → wp_S_openSlot_42_f post n x1 x2 x3 u → W p l e (rm_S_openSlot) s m args below meth c H locs 0 0 (MQ below (va_Qv post (zz_B D zz_cl (zz_ty cI cZ cL) (gw_C cI cZ cL a) A) A) args s 0 0 A) (F0 m 42 ls []) := by
  intro n
  induction n with
  | zero => exact fun _ _ _ _ _ _ _ _ _ h => False.elim h
  | succ n ih => exact wk_S_openSlot_42 cx post ih
set_option maxRecDepth 100000 in
set_option maxHeartbeats 4000000 in
theorem ct_S_openSlot (l : Launch) (D : va_G) (cI cZ cL : ClassId) (a : Nat → Nat) {a0 : Int32} {u : zz_St} {post : zz_St → Prop} (h : wp_S_openSlot  a0 u post) : zz_MV l y_S_openSlot (.code y_S_openSlot b_S_openSlot 5 none :: zz_tbl) (rm_S_openSlot) D zz_cl (zz_ty cI cZ cL) (gw_C cI cZ cL a) [.ref (a 4), .int a0] u post := by
  unfold wp_S_openSlot at h
  refine zz_ofV (by decide) (Nat.le_of_ble_eq_true rfl) ?_
  intro p e s m below meth c A cx hw ls hl
  obtain ⟨hx, hb, hr, hml, hown, hts, hlk, hK, hA⟩ := id cx
  refine lv_aload_n hx hb d_S_openSlot_0 rfl (lv_at hl 0 rfl) ?_
  refine zz_get (v2 := .ref (a 1)) cx hw in_S 4 rfl rfl 0 (by decide) kw_139 rfl rfl d_S_openSlot_1 ?_
  refine zz_get (v2 := .ref (a 8)) cx hw in_G 1 rfl rfl 7 (by decide) kw_140 rfl rfl d_S_openSlot_4 ?_
  refine lv_iload_n hx hb d_S_openSlot_7 rfl (lv_at hl 1 rfl) ?_
  obtain ⟨hi, h⟩ := h
  refine zz_iald (f2 := sg_a u 3) cx hw 8 0 rfl rfl hi rfl d_S_openSlot_8 ?_
  refine lv_topi (fun v1 ev1 => ?_)
  replace h := h v1 ev1
  refine lv_istore_n (lv' := [(2, .int v1), (0, .ref (a 4)), (1, .int a0)]) hx hb d_S_openSlot_9 rfl hl (by decide) rfl (fun ls hl => ?_)
  refine lv_aload_n hx hb d_S_openSlot_10 rfl (lv_at hl 1 rfl) ?_
  refine zz_get (v2 := .ref (a 26)) cx hw in_S 4 rfl rfl 3 (by decide) kw_134 rfl rfl d_S_openSlot_11 ?_
  refine lv_iload_n hx hb d_S_openSlot_14 rfl (lv_at hl 2 rfl) ?_
  refine lv_aload_n hx hb d_S_openSlot_15 rfl (lv_at hl 1 rfl) ?_
  refine zz_get (v2 := .ref (a 2)) cx hw in_S 4 rfl rfl 1 (by decide) kw_135 rfl rfl d_S_openSlot_16 ?_
  refine zz_get (v2 := .ref (a 22)) cx hw in_L 2 rfl rfl 5 (by decide) kw_141 rfl rfl d_S_openSlot_19 ?_
  refine lv_iload_n hx hb d_S_openSlot_22 rfl (lv_at hl 0 rfl) ?_
  obtain ⟨hi, h⟩ := h
  refine zz_lald (f2 := sg_b u 0) cx hw 22 2 rfl rfl hi rfl d_S_openSlot_23 ?_
  refine lv_topl (fun v2 ev2 => ?_)
  replace h := h v2 ev2
  obtain ⟨hi, h⟩ := h
  refine zz_last (ws' := gw_C cI cZ cL a (ss_b u 4 (vp_updL (sg_b u 4) a0.toNatClampNeg v2))) cx hw 26 2 rfl rfl hi rfl (gw_C_b4 _ _ _ _ _ _) d_S_openSlot_24 (fun H locs hw => ?_)
  refine lv_aload_n hx hb d_S_openSlot_25 rfl (lv_at hl 1 rfl) ?_
  refine zz_get (v2 := .ref (a 27)) cx hw in_S 4 rfl rfl 4 (by decide) kw_137 rfl rfl d_S_openSlot_26 ?_
  refine lv_iload_n hx hb d_S_openSlot_29 rfl (lv_at hl 2 rfl) ?_
  refine lv_aload_n hx hb d_S_openSlot_30 rfl (lv_at hl 1 rfl) ?_
  refine zz_get (v2 := .ref (a 2)) cx hw in_S 4 rfl rfl 1 (by decide) kw_135 rfl rfl d_S_openSlot_31 ?_
  refine zz_get (v2 := .ref (a 23)) cx hw in_L 2 rfl rfl 6 (by decide) kw_142 rfl rfl d_S_openSlot_34 ?_
  refine lv_iload_n hx hb d_S_openSlot_37 rfl (lv_at hl 0 rfl) ?_
  obtain ⟨hi, h⟩ := h
  refine zz_lald (f2 := sg_b u 1) cx hw 23 2 rfl rfl hi (sy_b _ _ (by decide)) d_S_openSlot_38 ?_
  refine lv_topl (fun v3 ev3 => ?_)
  replace h := h v3 ev3
  obtain ⟨hi, h⟩ := h
  refine zz_last (ws' := gw_C cI cZ cL a (ss_b (ss_b u 4 (vp_updL (sg_b u 4) a0.toNatClampNeg v2)) 5 (vp_updL (sg_b u 5) a0.toNatClampNeg v3))) cx hw 27 2 rfl rfl hi (sy_b _ _ (by decide)) (gw_C_b5 _ _ _ _ _ _) d_S_openSlot_39 (fun H locs hw => ?_)
  refine lv_iconst (v := 0) hx hb d_S_openSlot_40 (by decide) ?_
  refine lv_istore_n (lv' := [(3, .int 0), (2, .int v1), (0, .ref (a 4)), (1, .int a0)]) hx hb d_S_openSlot_41 rfl hl (by decide) rfl (fun ls hl => ?_)
  obtain ⟨n, h⟩ := h
  exact wk_S_openSlot_42_f cx post  n a0 v1 0 (ss_b (ss_b u 4 (vp_updL (sg_b u 4) a0.toNatClampNeg v2)) 5 (vp_updL (sg_b u 5) a0.toNatClampNeg v3)) _ _ _ hw (lv_sub hl [2, 3, 1, 0] rfl) h
set_option maxRecDepth 100000 in
set_option maxHeartbeats 4000000 in
theorem ct_S_countAtStart (l : Launch) (D : va_G) (cI cZ cL : ClassId) (a : Nat → Nat) {a0 : Int32} {u : zz_St} {post : Int32 → zz_St → Prop} (h : wp_S_countAtStart  a0 u post) : zz_MI l y_S_countAtStart (.code y_S_countAtStart b_S_countAtStart 2 (some .int) :: zz_tbl) (rm_S_countAtStart) D zz_cl (zz_ty cI cZ cL) (gw_C cI cZ cL a) [.ref (a 4), .int a0] u post := by
  unfold wp_S_countAtStart at h
  refine zz_ofI (by decide) (Nat.le_of_ble_eq_true rfl) ?_
  intro p e s m below meth c A cx hw ls hl
  obtain ⟨hx, hb, hr, hml, hown, hts, hlk, hK, hA⟩ := id cx
  refine lv_aload_n hx hb d_S_countAtStart_0 rfl (lv_at hl 0 rfl) ?_
  refine lv_iload_n hx hb d_S_countAtStart_1 rfl (lv_at hl 1 rfl) ?_
  refine zz_callVv (As := [.int a0]) (rest := []) cx hw (ct_S_openSlot l D cI cZ cL a h) (zz_gV kw_159 kw_161 kw_162 kw_150 kw_160) hd_S_openSlot ⟨rfl, rfl⟩ ⟨Nat.le_of_ble_eq_true rfl, Nat.le_of_ble_eq_true rfl⟩ 4 rfl rfl rfl rfl hl.1 rfl (Nat.le_of_ble_eq_true rfl) d_S_countAtStart_2 (fun s1 H locs h hw => ?_)
  refine lv_aload_n hx hb d_S_countAtStart_5 rfl (lv_at hl 0 rfl) ?_
  refine zz_get (v2 := .ref (a 26)) cx hw in_S 4 rfl rfl 3 (by decide) kw_134 rfl rfl d_S_countAtStart_6 ?_
  refine lv_iload_n hx hb d_S_countAtStart_9 rfl (lv_at hl 1 rfl) ?_
  obtain ⟨hi, h⟩ := h
  refine zz_lald (f2 := sg_b s1 4) cx hw 26 2 rfl rfl hi rfl d_S_countAtStart_10 ?_
  refine zz_callSi (As := [.long (sg_b s1 4 a0.toNatClampNeg)]) (rest := []) cx hw (ct_JL_bitCount l D cI cZ cL a h) (zz_gS kw_155 kw_158 kw_157 kw_156) hd_JL_bitCount ⟨rfl, rfl⟩ ⟨Nat.le_of_ble_eq_true rfl, Nat.le_of_ble_eq_true rfl⟩ rfl hl.1 rfl (Nat.le_of_ble_eq_true rfl) d_S_countAtStart_11 (fun r3 s2 H locs h hw => ?_)
  refine lv_aload_n hx hb d_S_countAtStart_14 rfl (lv_at hl 0 rfl) ?_
  refine zz_get (v2 := .ref (a 27)) cx hw in_S 4 rfl rfl 4 (by decide) kw_137 rfl rfl d_S_countAtStart_15 ?_
  refine lv_iload_n hx hb d_S_countAtStart_18 rfl (lv_at hl 1 rfl) ?_
  obtain ⟨hi, h⟩ := h
  refine zz_lald (f2 := sg_b s2 5) cx hw 27 2 rfl rfl hi rfl d_S_countAtStart_19 ?_
  refine zz_callSi (As := [.long (sg_b s2 5 a0.toNatClampNeg)]) (rest := [.int r3]) cx hw (ct_JL_bitCount l D cI cZ cL a h) (zz_gS kw_155 kw_158 kw_157 kw_156) hd_JL_bitCount ⟨rfl, rfl⟩ ⟨Nat.le_of_ble_eq_true rfl, Nat.le_of_ble_eq_true rfl⟩ rfl hl.1 rfl (Nat.le_of_ble_eq_true rfl) d_S_countAtStart_20 (fun r5 s4 H locs h hw => ?_)
  refine lv_iadd hx hb d_S_countAtStart_23 ?_
  exact zz_reti cx hw d_S_countAtStart_24 h
set_option maxRecDepth 100000 in
set_option maxHeartbeats 4000000 in
theorem wk_S_clearSlots_12 {p : Program} {l : Launch} {e : Env} {s : State} {m : MethodId} {args : Array Value} {below : List Frame} {meth : Method} {c : Code} {A : Nat → Prop} {D : va_G} {cI cZ cL : ClassId} {a : Nat → Nat} (cx : zz_Cx p s m args meth c "GridFills$Search" b_S_clearSlots 2 none D zz_cl (zz_ty cI cZ cL) A) (post : zz_St → Prop) {kn12 : Int32 → zz_St → Prop} (hkn12 : ∀ (x1 : Int32) (u : zz_St) (H : Heap) (locs : List Loc) (ls : Array Slot), zz_Wd D zz_cl A s.heap H locs (gw_C cI cZ cL a u) → lv_has ls 2 [(0, .ref (a 4)), (1, .int x1)] → kn12 x1 u → W p l e (rm_S_clearSlots) s m args below meth c H locs 0 0 (MQ below (va_Qv post (zz_B D zz_cl (zz_ty cI cZ cL) (gw_C cI cZ cL a) A) A) args s 0 0 A) (F0 m 12 ls [])) : ∀ (x1 : Int32) (u : zz_St) (H : Heap) (locs : List Loc) (ls : Array Slot), zz_Wd D zz_cl A s.heap H locs (gw_C cI cZ cL a u) → lv_has ls 2 [(0, .ref (a 4)), (1, .int x1)] → wp_S_clearSlots_12 post kn12 x1 u → W p l e (rm_S_clearSlots) s m args below meth c H locs 0 0 (MQ below (va_Qv post (zz_B D zz_cl (zz_ty cI cZ cL) (gw_C cI cZ cL a) A) A) args s 0 0 A) (F0 m 12 ls []) := by
  intro x1 u H locs ls hw hl h
  unfold wp_S_clearSlots_12 at h
  obtain ⟨hx, hb, hr, hml, hown, hts, hlk, hK, hA⟩ := id cx
  refine lv_iload_n hx hb d_S_clearSlots_12 rfl (lv_at hl 1 rfl) ?_
  refine lv_aload_n hx hb d_S_clearSlots_13 rfl (lv_at hl 0 rfl) ?_
  refine zz_get (v2 := .ref (a 1)) cx hw in_S 4 rfl rfl 0 (by decide) kw_139 rfl rfl d_S_clearSlots_14 ?_
  refine zz_get (v2 := .int (sg_i u 3)) cx hw in_G 1 rfl rfl 5 (by decide) kw_165 rfl rfl d_S_clearSlots_17 ?_
  refine lv_icmp_ge (tgt := 41) hx hb d_S_clearSlots_20 (by decide) (fun c1 => ?_) (fun c1 => ?_)
  · replace h := h.1 c1
    exact zz_retv cx hw d_S_clearSlots_41 h
  · replace h := h.2 c1
    refine lv_aload_n hx hb d_S_clearSlots_23 rfl (lv_at hl 0 rfl) ?_
    refine zz_get (v2 := .ref (a 21)) cx hw in_S 4 rfl rfl 5 (by decide) kw_166 rfl rfl d_S_clearSlots_24 ?_
    refine lv_iload_n hx hb d_S_clearSlots_27 rfl (lv_at hl 1 rfl) ?_
    refine lv_iconst (v := (-1)) hx hb d_S_clearSlots_28 (by decide) ?_
    obtain ⟨hi, h⟩ := h
    refine zz_iast (ws' := gw_C cI cZ cL a (ss_a u 16 (upd (sg_a u 16) x1.toNatClampNeg (-1)))) cx hw 21 0 rfl rfl hi rfl (gw_C_a16 _ _ _ _ _ _) d_S_clearSlots_29 (fun H locs hw => ?_)
    refine lv_aload_n hx hb d_S_clearSlots_30 rfl (lv_at hl 0 rfl) ?_
    refine lv_iload_n hx hb d_S_clearSlots_31 rfl (lv_at hl 1 rfl) ?_
    refine zz_callVv (As := [.int x1]) (rest := []) cx hw (ct_S_openSlot l D cI cZ cL a h) (zz_gV kw_159 kw_161 kw_162 kw_150 kw_160) hd_S_openSlot ⟨rfl, rfl⟩ ⟨Nat.le_of_ble_eq_true rfl, Nat.le_of_ble_eq_true rfl⟩ 4 rfl rfl rfl rfl hl.1 rfl (Nat.le_of_ble_eq_true rfl) d_S_clearSlots_32 (fun s2 H locs h hw => ?_)
    refine lv_iinc (v := x1 + 1) (lv' := [(1, .int (x1 + 1)), (0, .ref (a 4))]) hx hb d_S_clearSlots_35 hl (k := 1) rfl rfl (by decide) rfl (fun ls hl => ?_)
    refine lv_goto (tgt := 12) hx hb d_S_clearSlots_38 (by decide) ?_
    exact hkn12 (x1 + 1) s2 _ _ _ hw (lv_sub hl [1, 0] rfl) h
set_option maxRecDepth 100000 in
set_option maxHeartbeats 4000000 in
theorem wk_S_clearSlots_12_f {p : Program} {l : Launch} {e : Env} {s : State} {m : MethodId} {args : Array Value} {below : List Frame} {meth : Method} {c : Code} {A : Nat → Prop} {D : va_G} {cI cZ cL : ClassId} {a : Nat → Nat} (cx : zz_Cx p s m args meth c "GridFills$Search" b_S_clearSlots 2 none D zz_cl (zz_ty cI cZ cL) A) (post : zz_St → Prop) : ∀ n : Nat, ∀ (x1 : Int32) (u : zz_St) (H : Heap) (locs : List Loc) (ls : Array Slot), zz_Wd D zz_cl A s.heap H locs (gw_C cI cZ cL a u) → lv_has ls 2 [(0, .ref (a 4)), (1, .int x1)] → wp_S_clearSlots_12_f post n x1 u → W p l e (rm_S_clearSlots) s m args below meth c H locs 0 0 (MQ below (va_Qv post (zz_B D zz_cl (zz_ty cI cZ cL) (gw_C cI cZ cL a) A) A) args s 0 0 A) (F0 m 12 ls []) := by
  intro n
  induction n with
  | zero => exact fun _ _ _ _ _ _ _ h => False.elim h
  | succ n ih => exact wk_S_clearSlots_12 cx post ih
set_option maxRecDepth 100000 in
set_option maxHeartbeats 4000000 in
theorem ct_S_clearSlots (l : Launch) (D : va_G) (cI cZ cL : ClassId) (a : Nat → Nat) {u : zz_St} {post : zz_St → Prop} (h : wp_S_clearSlots  u post) : zz_MV l y_S_clearSlots (.code y_S_clearSlots b_S_clearSlots 2 none :: zz_tbl) (rm_S_clearSlots) D zz_cl (zz_ty cI cZ cL) (gw_C cI cZ cL a) [.ref (a 4)] u post := by
  unfold wp_S_clearSlots at h
  refine zz_ofV (by decide) (Nat.le_of_ble_eq_true rfl) ?_
  intro p e s m below meth c A cx hw ls hl
  obtain ⟨hx, hb, hr, hml, hown, hts, hlk, hK, hA⟩ := id cx
  refine lv_aload_n hx hb d_S_clearSlots_0 rfl (lv_at hl 0 rfl) ?_
  refine lv_lconst (v := 0) hx hb d_S_clearSlots_1 (by decide) ?_
  refine zz_put (v := .long 0) (ws' := gw_C cI cZ cL a (ss_l u 0 0)) cx hw in_S ty_S tk_S nm_S 4 rfl rfl 6 (by decide) kw_164 rfl ⟨rfl, rfl⟩ (Nat.le_of_ble_eq_true rfl) (gw_C_l0 _ _ _ _ _ _) d_S_clearSlots_2 (fun H locs hw => ?_)
  refine lv_aload_n hx hb d_S_clearSlots_5 rfl (lv_at hl 0 rfl) ?_
  refine lv_lconst (v := 0) hx hb d_S_clearSlots_6 (by decide) ?_
  refine zz_put (v := .long 0) (ws' := gw_C cI cZ cL a (ss_l (ss_l u 0 0) 1 0)) cx hw in_S ty_S tk_S nm_S 4 rfl rfl 7 (by decide) kw_163 rfl ⟨rfl, rfl⟩ (Nat.le_of_ble_eq_true rfl) (gw_C_l1 _ _ _ _ _ _) d_S_clearSlots_7 (fun H locs hw => ?_)
  refine lv_iconst (v := 0) hx hb d_S_clearSlots_10 (by decide) ?_
  refine lv_istore_n (lv' := [(1, .int 0), (0, .ref (a 4))]) hx hb d_S_clearSlots_11 rfl hl (by decide) rfl (fun ls hl => ?_)
  obtain ⟨n, h⟩ := h
  exact wk_S_clearSlots_12_f cx post  n 0 (ss_l (ss_l u 0 0) 1 0) _ _ _ hw (lv_sub hl [1, 0] rfl) h
set_option maxRecDepth 100000 in
set_option maxHeartbeats 4000000 in
theorem ct_S_lowestBit (l : Launch) (D : va_G) (cI cZ cL : ClassId) (a : Nat → Nat) {a0 : Int64} {u : zz_St} {post : Int32 → zz_St → Prop} (h : wp_S_lowestBit  a0 u post) : zz_MI l y_S_lowestBit (.code y_S_lowestBit b_S_lowestBit 2 (some .int) :: zz_tbl) (rm_S_lowestBit) D zz_cl (zz_ty cI cZ cL) (gw_C cI cZ cL a) [.long a0] u post := by
  unfold wp_S_lowestBit at h
  refine zz_ofI (by decide) (Nat.le_of_ble_eq_true rfl) ?_
  intro p e s m below meth c A cx hw ls hl
  obtain ⟨hx, hb, hr, hml, hown, hts, hlk, hK, hA⟩ := id cx
  refine lv_lload_n hx hb d_S_lowestBit_0 rfl (lv_at hl 0 rfl) ?_
  refine lv_lload_n hx hb d_S_lowestBit_1 rfl (lv_at hl 0 rfl) ?_
  refine lv_lneg hx hb d_S_lowestBit_2 ?_
  refine lv_land hx hb d_S_lowestBit_3 ?_
  refine lv_lconst (v := 1) hx hb d_S_lowestBit_4 (by decide) ?_
  refine lv_lsub hx hb d_S_lowestBit_5 ?_
  refine zz_callSi (As := [.long ((a0 &&& (-a0)) - 1)]) (rest := []) cx hw (ct_JL_bitCount l D cI cZ cL a h) (zz_gS kw_155 kw_158 kw_157 kw_156) hd_JL_bitCount ⟨rfl, rfl⟩ ⟨Nat.le_of_ble_eq_true rfl, Nat.le_of_ble_eq_true rfl⟩ rfl hl.1 rfl (Nat.le_of_ble_eq_true rfl) d_S_lowestBit_6 (fun r2 s1 H locs h hw => ?_)
  exact zz_reti cx hw d_S_lowestBit_9 h
set_option maxRecDepth 100000 in
set_option maxHeartbeats 4000000 in
theorem ct_S_takeFilling (l : Launch) (D : va_G) (cI cZ cL : ClassId) (a : Nat → Nat) {u : zz_St} {post : Int32 → zz_St → Prop} (h : wp_S_takeFilling  u post) : zz_MI l y_S_takeFilling (.code y_S_takeFilling b_S_takeFilling 1 (some .boolean) :: zz_tbl) (rm_S_takeFilling) D zz_cl (zz_ty cI cZ cL) (gw_C cI cZ cL a) [.ref (a 4)] u post := by
  unfold wp_S_takeFilling at h
  refine zz_ofI (by decide) (Nat.le_of_ble_eq_true rfl) ?_
  intro p e s m below meth c A cx hw ls hl
  obtain ⟨hx, hb, hr, hml, hown, hts, hlk, hK, hA⟩ := id cx
  refine lv_aload_n hx hb d_S_takeFilling_0 rfl (lv_at hl 0 rfl) ?_
  refine lv_dup hx hb d_S_takeFilling_1 rfl ?_
  refine zz_get (v2 := .int (sg_i u 12)) cx hw in_S 4 rfl rfl 13 (by decide) kw_167 rfl rfl d_S_takeFilling_2 ?_
  refine lv_iconst (v := 1) hx hb d_S_takeFilling_5 (by decide) ?_
  refine lv_iadd hx hb d_S_takeFilling_6 ?_
  refine lv_topi (fun v1 ev1 => ?_)
  replace h := h v1 ev1
  refine zz_put (v := .int v1) (ws' := gw_C cI cZ cL a (ss_i u 12 v1)) cx hw in_S ty_S tk_S nm_S 4 rfl rfl 13 (by decide) kw_167 rfl ⟨rfl, rfl⟩ (Nat.le_of_ble_eq_true rfl) (gw_C_i12 _ _ _ _ _ _) d_S_takeFilling_7 (fun H locs hw => ?_)
  refine lv_aload_n hx hb d_S_takeFilling_10 rfl (lv_at hl 0 rfl) ?_
  refine zz_get (v2 := .int (sg_i u 7)) cx hw in_S 4 rfl rfl 8 (by decide) kw_168 rfl (congrArg Value.int (sy_i _ _ (by decide))) d_S_takeFilling_11 ?_
  refine lv_aload_n hx hb d_S_takeFilling_14 rfl (lv_at hl 0 rfl) ?_
  refine zz_get (v2 := .ref (a 3)) cx hw in_S 4 rfl rfl 2 (by decide) kw_169 rfl rfl d_S_takeFilling_15 ?_
  refine zz_get (v2 := .int (sg_i u 6)) cx hw in_F 3 rfl rfl 3 (by decide) kw_170 rfl (congrArg Value.int (sy_i _ _ (by decide))) d_S_takeFilling_18 ?_
  refine lv_icmp_le (tgt := 39) hx hb d_S_takeFilling_21 (by decide) (fun c2 => ?_) (fun c2 => ?_)
  · replace h := h.1 c2
    refine lv_aload_n hx hb d_S_takeFilling_39 rfl (lv_at hl 0 rfl) ?_
    refine zz_get (v2 := .int (sg_i u 9)) cx hw in_S 4 rfl rfl 10 (by decide) kw_171 rfl (congrArg Value.int (sy_i _ _ (by decide))) d_S_takeFilling_40 ?_
    exact zz_retz cx hw d_S_takeFilling_43 h.1 h.2
  · replace h := h.2 c2
    refine lv_aload_n hx hb d_S_takeFilling_24 rfl (lv_at hl 0 rfl) ?_
    refine zz_get (v2 := .ref (a 3)) cx hw in_S 4 rfl rfl 2 (by decide) kw_169 rfl rfl d_S_takeFilling_25 ?_
    refine lv_aload_n hx hb d_S_takeFilling_28 rfl (lv_at hl 0 rfl) ?_
    refine zz_get (v2 := .ref (a 21)) cx hw in_S 4 rfl rfl 5 (by decide) kw_166 rfl rfl d_S_takeFilling_29 ?_
    refine lv_aload_n hx hb d_S_takeFilling_32 rfl (lv_at hl 0 rfl) ?_
    refine zz_get (v2 := .int (sg_i u 7)) cx hw in_S 4 rfl rfl 8 (by decide) kw_168 rfl (congrArg Value.int (sy_i _ _ (by decide))) d_S_takeFilling_33 ?_
    refine zz_callVv (As := [.ref (a 21), .int (sg_i u 7)]) (rest := []) cx hw (ct_F_keep l D cI cZ cL a h) (zz_gV kw_172 kw_174 kw_175 kw_119 kw_173) hd_F_keep ⟨rfl, rfl⟩ ⟨Nat.le_of_ble_eq_true rfl, Nat.le_of_ble_eq_true rfl⟩ 3 rfl rfl rfl rfl hl.1 rfl (Nat.le_of_ble_eq_true rfl) d_S_takeFilling_36 (fun s3 H locs h hw => ?_)
    refine lv_aload_n hx hb d_S_takeFilling_39 rfl (lv_at hl 0 rfl) ?_
    refine zz_get (v2 := .int (sg_i s3 9)) cx hw in_S 4 rfl rfl 10 (by decide) kw_171 rfl rfl d_S_takeFilling_40 ?_
    exact zz_retz cx hw d_S_takeFilling_43 h.1 h.2
set_option maxRecDepth 100000 in
set_option maxHeartbeats 4000000 in
theorem wk_S_slotWithFewest_100 {p : Program} {l : Launch} {e : Env} {s : State} {m : MethodId} {args : Array Value} {below : List Frame} {meth : Method} {c : Code} {A : Nat → Prop} {D : va_G} {cI cZ cL : ClassId} {a : Nat → Nat} (cx : zz_Cx p s m args meth c "GridFills$Search" b_S_slotWithFewest 7 (some .int) D zz_cl (zz_ty cI cZ cL) A) (post : Int32 → zz_St → Prop) {kn14 : Int32 → Int32 → Int32 → Int32 → zz_St → Prop} (hkn14 : ∀ (x2 : Int32) (x3 : Int32) (x4 : Int32) (x5 : Int32) (u : zz_St) (H : Heap) (locs : List Loc) (ls : Array Slot), zz_Wd D zz_cl A s.heap H locs (gw_C cI cZ cL a u) → lv_has ls 7 [(0, .ref (a 4)), (2, .int x2), (3, .int x3), (4, .int x4), (5, .int x5)] → kn14 x2 x3 x4 x5 u → W p l e (rm_S_slotWithFewest) s m args below meth c H locs 0 0 (MQ below (va_Qi post (zz_B D zz_cl (zz_ty cI cZ cL) (gw_C cI cZ cL a) A) A) args s 0 0 A) (F0 m 14 ls [])) : ∀ (x2 : Int32) (x3 : Int32) (x4 : Int32) (x5 : Int32) (u : zz_St) (H : Heap) (locs : List Loc) (ls : Array Slot), zz_Wd D zz_cl A s.heap H locs (gw_C cI cZ cL a u) → lv_has ls 7 [(0, .ref (a 4)), (2, .int x2), (3, .int x3), (4, .int x4), (5, .int x5)] → wp_S_slotWithFewest_100 post kn14 x2 x3 x4 x5 u → W p l e (rm_S_slotWithFewest) s m args below meth c H locs 0 0 (MQ below (va_Qi post (zz_B D zz_cl (zz_ty cI cZ cL) (gw_C cI cZ cL a) A) A) args s 0 0 A) (F0 m 100 ls []) := by
  intro x2 x3 x4 x5 u H locs ls hw hl h
  unfold wp_S_slotWithFewest_100 at h
  obtain ⟨hx, hb, hr, hml, hown, hts, hlk, hK, hA⟩ := id cx
  refine lv_iinc (v := x5 + 1) (lv' := [(5, .int (x5 + 1)), (0, .ref (a 4)), (2, .int x2), (3, .int x3), (4, .int x4)]) hx hb d_S_slotWithFewest_100 hl (k := 4) rfl rfl (by decide) rfl (fun ls hl => ?_)
  refine lv_goto (tgt := 14) hx hb d_S_slotWithFewest_103 (by decide) ?_
  exact hkn14 x2 x3 x4 (x5 + 1) u _ _ _ hw (lv_sub hl [1, 2, 3, 4, 0] rfl) h
set_option maxRecDepth 100000 in
set_option maxHeartbeats 4000000 in
theorem wk_S_slotWithFewest_14 {p : Program} {l : Launch} {e : Env} {s : State} {m : MethodId} {args : Array Value} {below : List Frame} {meth : Method} {c : Code} {A : Nat → Prop} {D : va_G} {cI cZ cL : ClassId} {a : Nat → Nat} (cx : zz_Cx p s m args meth c "GridFills$Search" b_S_slotWithFewest 7 (some .int) D zz_cl (zz_ty cI cZ cL) A) (post : Int32 → zz_St → Prop) {kn14 : Int32 → Int32 → Int32 → Int32 → zz_St → Prop} (hkn14 : ∀ (x2 : Int32) (x3 : Int32) (x4 : Int32) (x5 : Int32) (u : zz_St) (H : Heap) (locs : List Loc) (ls : Array Slot), zz_Wd D zz_cl A s.heap H locs (gw_C cI cZ cL a u) → lv_has ls 7 [(0, .ref (a 4)), (2, .int x2), (3, .int x3), (4, .int x4), (5, .int x5)] → kn14 x2 x3 x4 x5 u → W p l e (rm_S_slotWithFewest) s m args below meth c H locs 0 0 (MQ below (va_Qi post (zz_B D zz_cl (zz_ty cI cZ cL) (gw_C cI cZ cL a) A) A) args s 0 0 A) (F0 m 14 ls [])) : ∀ (x2 : Int32) (x3 : Int32) (x4 : Int32) (x5 : Int32) (u : zz_St) (H : Heap) (locs : List Loc) (ls : Array Slot), zz_Wd D zz_cl A s.heap H locs (gw_C cI cZ cL a u) → lv_has ls 7 [(0, .ref (a 4)), (2, .int x2), (3, .int x3), (4, .int x4), (5, .int x5)] → wp_S_slotWithFewest_14 post kn14 x2 x3 x4 x5 u → W p l e (rm_S_slotWithFewest) s m args below meth c H locs 0 0 (MQ below (va_Qi post (zz_B D zz_cl (zz_ty cI cZ cL) (gw_C cI cZ cL a) A) A) args s 0 0 A) (F0 m 14 ls []) := by
  intro x2 x3 x4 x5 u H locs ls hw hl h
  unfold wp_S_slotWithFewest_14 at h
  obtain ⟨hx, hb, hr, hml, hown, hts, hlk, hK, hA⟩ := id cx
  refine lv_iload hx hb d_S_slotWithFewest_14 (lv_at hl 4 rfl) ?_
  refine lv_aload_n hx hb d_S_slotWithFewest_16 rfl (lv_at hl 0 rfl) ?_
  refine zz_get (v2 := .ref (a 1)) cx hw in_S 4 rfl rfl 0 (by decide) kw_139 rfl rfl d_S_slotWithFewest_17 ?_
  refine zz_get (v2 := .int (sg_i u 3)) cx hw in_G 1 rfl rfl 5 (by decide) kw_165 rfl rfl d_S_slotWithFewest_20 ?_
  refine lv_icmp_ge (tgt := 106) hx hb d_S_slotWithFewest_23 (by decide) (fun c2 => ?_) (fun c2 => ?_)
  · replace h := h.1 c2
    refine lv_iload_n hx hb d_S_slotWithFewest_106 rfl (lv_at hl 2 rfl) ?_
    exact zz_reti cx hw d_S_slotWithFewest_107 h
  · replace h := h.2 c2
    refine lv_iload_n hx hb d_S_slotWithFewest_26 rfl (lv_at hl 1 rfl) ?_
    refine lv_if_le (tgt := 106) hx hb d_S_slotWithFewest_27 (by decide) (fun c3 => ?_) (fun c3 => ?_)
    · replace h := h.1 c3
      refine lv_iload_n hx hb d_S_slotWithFewest_106 rfl (lv_at hl 2 rfl) ?_
      exact zz_reti cx hw d_S_slotWithFewest_107 h
    · replace h := h.2 c3
      refine lv_aload_n hx hb d_S_slotWithFewest_30 rfl (lv_at hl 0 rfl) ?_
      refine zz_get (v2 := .ref (a 21)) cx hw in_S 4 rfl rfl 5 (by decide) kw_166 rfl rfl d_S_slotWithFewest_31 ?_
      refine lv_iload hx hb d_S_slotWithFewest_34 (lv_at hl 4 rfl) ?_
      obtain ⟨hi, h⟩ := h
      refine zz_iald (f2 := sg_a u 16) cx hw 21 0 rfl rfl hi rfl d_S_slotWithFewest_36 ?_
      refine lv_iconst (v := (-1)) hx hb d_S_slotWithFewest_37 (by decide) ?_
      refine lv_icmp_ne (tgt := 100) hx hb d_S_slotWithFewest_38 (by decide) (fun c4 => ?_) (fun c4 => ?_)
      · replace h := h.2 c4
        exact wk_S_slotWithFewest_100 cx post hkn14 x2 x3 x4 x5 u _ _ _ hw (lv_sub hl [0, 1, 2, 3, 4] rfl) h
      · replace h := h.1 c4
        refine lv_aload_n hx hb d_S_slotWithFewest_41 rfl (lv_at hl 0 rfl) ?_
        refine zz_get (v2 := .ref (a 26)) cx hw in_S 4 rfl rfl 3 (by decide) kw_134 rfl rfl d_S_slotWithFewest_42 ?_
        refine lv_iload hx hb d_S_slotWithFewest_45 (lv_at hl 3 rfl) ?_
        refine lv_iload hx hb d_S_slotWithFewest_47 (lv_at hl 4 rfl) ?_
        refine lv_iadd hx hb d_S_slotWithFewest_49 ?_
        obtain ⟨hi, h⟩ := h
        refine zz_lald (f2 := sg_b u 4) cx hw 26 2 rfl rfl hi rfl d_S_slotWithFewest_50 ?_
        refine lv_aload_n hx hb d_S_slotWithFewest_51 rfl (lv_at hl 0 rfl) ?_
        refine zz_get (v2 := .long (sg_l u 0)) cx hw in_S 4 rfl rfl 6 (by decide) kw_164 rfl rfl d_S_slotWithFewest_52 ?_
        refine lv_ldc2 (v := (-1)) hx hb hown (hts _ kw_176) d_S_slotWithFewest_55 ?_
        refine lv_lxor hx hb d_S_slotWithFewest_58 ?_
        refine lv_land hx hb d_S_slotWithFewest_59 ?_
        refine zz_callSi (As := [.long ((sg_b u 4 (x4 + x5).toNatClampNeg) &&& ((sg_l u 0) ^^^ (-1)))]) (rest := []) cx hw (ct_JL_bitCount l D cI cZ cL a h) (zz_gS kw_155 kw_158 kw_157 kw_156) hd_JL_bitCount ⟨rfl, rfl⟩ ⟨Nat.le_of_ble_eq_true rfl, Nat.le_of_ble_eq_true rfl⟩ rfl hl.1 rfl (Nat.le_of_ble_eq_true rfl) d_S_slotWithFewest_60 (fun r6 s5 H locs h hw => ?_)
        refine lv_aload_n hx hb d_S_slotWithFewest_63 rfl (lv_at hl 0 rfl) ?_
        refine zz_get (v2 := .ref (a 27)) cx hw in_S 4 rfl rfl 4 (by decide) kw_137 rfl rfl d_S_slotWithFewest_64 ?_
        refine lv_iload hx hb d_S_slotWithFewest_67 (lv_at hl 3 rfl) ?_
        refine lv_iload hx hb d_S_slotWithFewest_69 (lv_at hl 4 rfl) ?_
        refine lv_iadd hx hb d_S_slotWithFewest_71 ?_
        obtain ⟨hi, h⟩ := h
        refine zz_lald (f2 := sg_b s5 5) cx hw 27 2 rfl rfl hi rfl d_S_slotWithFewest_72 ?_
        refine lv_aload_n hx hb d_S_slotWithFewest_73 rfl (lv_at hl 0 rfl) ?_
        refine zz_get (v2 := .long (sg_l s5 1)) cx hw in_S 4 rfl rfl 7 (by decide) kw_163 rfl rfl d_S_slotWithFewest_74 ?_
        refine lv_ldc2 (v := (-1)) hx hb hown (hts _ kw_176) d_S_slotWithFewest_77 ?_
        refine lv_lxor hx hb d_S_slotWithFewest_80 ?_
        refine lv_land hx hb d_S_slotWithFewest_81 ?_
        refine zz_callSi (As := [.long ((sg_b s5 5 (x4 + x5).toNatClampNeg) &&& ((sg_l s5 1) ^^^ (-1)))]) (rest := [.int r6]) cx hw (ct_JL_bitCount l D cI cZ cL a h) (zz_gS kw_155 kw_158 kw_157 kw_156) hd_JL_bitCount ⟨rfl, rfl⟩ ⟨Nat.le_of_ble_eq_true rfl, Nat.le_of_ble_eq_true rfl⟩ rfl hl.1 rfl (Nat.le_of_ble_eq_true rfl) d_S_slotWithFewest_82 (fun r8 s7 H locs h hw => ?_)
        refine lv_iadd hx hb d_S_slotWithFewest_85 ?_
        refine lv_topi (fun v9 ev9 => ?_)
        replace h := h v9 ev9
        refine lv_istore (lv' := [(6, .int v9), (0, .ref (a 4)), (2, .int x2), (3, .int x3), (4, .int x4), (5, .int x5)]) hx hb d_S_slotWithFewest_86 hl (by decide) rfl (fun ls hl => ?_)
        refine lv_iload hx hb d_S_slotWithFewest_88 (lv_at hl 0 rfl) ?_
        refine lv_iload_n hx hb d_S_slotWithFewest_90 rfl (lv_at hl 2 rfl) ?_
        refine lv_icmp_ge (tgt := 100) hx hb d_S_slotWithFewest_91 (by decide) (fun c10 => ?_) (fun c10 => ?_)
        · replace h := h.1 c10
          exact wk_S_slotWithFewest_100 cx post hkn14 x2 x3 x4 x5 s7 _ _ _ hw (lv_sub hl [1, 2, 3, 4, 5] rfl) h
        · replace h := h.2 c10
          refine lv_iload hx hb d_S_slotWithFewest_94 (lv_at hl 0 rfl) ?_
          refine lv_istore_n (lv' := [(2, .int v9), (6, .int v9), (0, .ref (a 4)), (3, .int x3), (4, .int x4), (5, .int x5)]) hx hb d_S_slotWithFewest_96 rfl hl (by decide) rfl (fun ls hl => ?_)
          refine lv_iload hx hb d_S_slotWithFewest_97 (lv_at hl 5 rfl) ?_
          refine lv_istore_n (lv' := [(3, .int x5), (2, .int v9), (6, .int v9), (0, .ref (a 4)), (4, .int x4), (5, .int x5)]) hx hb d_S_slotWithFewest_99 rfl hl (by decide) rfl (fun ls hl => ?_)
          exact wk_S_slotWithFewest_100 cx post hkn14 v9 x5 x4 x5 s7 _ _ _ hw (lv_sub hl [3, 1, 0, 4, 5] rfl) h
set_option maxRecDepth 100000 in
set_option maxHeartbeats 4000000 in
theorem wk_S_slotWithFewest_14_f {p : Program} {l : Launch} {e : Env} {s : State} {m : MethodId} {args : Array Value} {below : List Frame} {meth : Method} {c : Code} {A : Nat → Prop} {D : va_G} {cI cZ cL : ClassId} {a : Nat → Nat} (cx : zz_Cx p s m args meth c "GridFills$Search" b_S_slotWithFewest 7 (some .int) D zz_cl (zz_ty cI cZ cL) A) (post : Int32 → zz_St → Prop) : ∀ n : Nat, ∀ (x2 : Int32) (x3 : Int32) (x4 : Int32) (x5 : Int32) (u : zz_St) (H : Heap) (locs : List Loc) (ls : Array Slot), zz_Wd D zz_cl A s.heap H locs (gw_C cI cZ cL a u) → lv_has ls 7 [(0, .ref (a 4)), (2, .int x2), (3, .int x3), (4, .int x4), (5, .int x5)] → wp_S_slotWithFewest_14_f post n x2 x3 x4 x5 u → W p l e (rm_S_slotWithFewest) s m args below meth c H locs 0 0 (MQ below (va_Qi post (zz_B D zz_cl (zz_ty cI cZ cL) (gw_C cI cZ cL a) A) A) args s 0 0 A) (F0 m 14 ls []) := by
  intro n
  induction n with
  | zero => exact fun _ _ _ _ _ _ _ _ _ _ h => False.elim h
  | succ n ih => exact wk_S_slotWithFewest_14 cx post ih
set_option maxRecDepth 100000 in
set_option maxHeartbeats 4000000 in
theorem ct_S_slotWithFewest (l : Launch) (D : va_G) (cI cZ cL : ClassId) (a : Nat → Nat) {a0 : Int32} {u : zz_St} {post : Int32 → zz_St → Prop} (h : wp_S_slotWithFewest  a0 u post) : zz_MI l y_S_slotWithFewest (.code y_S_slotWithFewest b_S_slotWithFewest 7 (some .int) :: zz_tbl) (rm_S_slotWithFewest) D zz_cl (zz_ty cI cZ cL) (gw_C cI cZ cL a) [.ref (a 4), .int a0] u post := by
  unfold wp_S_slotWithFewest at h
  refine zz_ofI (by decide) (Nat.le_of_ble_eq_true rfl) ?_
  intro p e s m below meth c A cx hw ls hl
  obtain ⟨hx, hb, hr, hml, hown, hts, hlk, hK, hA⟩ := id cx
  refine lv_bipush (v := 81) hx hb d_S_slotWithFewest_0 (by decide) ?_
  refine lv_istore_n (lv' := [(2, .int 81), (0, .ref (a 4)), (1, .int a0)]) hx hb d_S_slotWithFewest_2 rfl hl (by decide) rfl (fun ls hl => ?_)
  refine lv_iconst (v := (-1)) hx hb d_S_slotWithFewest_3 (by decide) ?_
  refine lv_istore_n (lv' := [(3, .int (-1)), (2, .int 81), (0, .ref (a 4)), (1, .int a0)]) hx hb d_S_slotWithFewest_4 rfl hl (by decide) rfl (fun ls hl => ?_)
  refine lv_iload_n hx hb d_S_slotWithFewest_5 rfl (lv_at hl 3 rfl) ?_
  refine lv_bipush (v := 24) hx hb d_S_slotWithFewest_6 (by decide) ?_
  refine lv_imul hx hb d_S_slotWithFewest_8 ?_
  refine lv_topi (fun v1 ev1 => ?_)
  replace h := h v1 ev1
  refine lv_istore (lv' := [(4, .int v1), (3, .int (-1)), (2, .int 81), (0, .ref (a 4)), (1, .int a0)]) hx hb d_S_slotWithFewest_9 hl (by decide) rfl (fun ls hl => ?_)
  refine lv_iconst (v := 0) hx hb d_S_slotWithFewest_11 (by decide) ?_
  refine lv_istore (lv' := [(5, .int 0), (4, .int v1), (3, .int (-1)), (2, .int 81), (0, .ref (a 4)), (1, .int a0)]) hx hb d_S_slotWithFewest_12 hl (by decide) rfl (fun ls hl => ?_)
  obtain ⟨n, h⟩ := h
  exact wk_S_slotWithFewest_14_f cx post  n 81 (-1) v1 0 u _ _ _ hw (lv_sub hl [4, 3, 2, 1, 0] rfl) h
set_option maxRecDepth 100000 in
set_option maxHeartbeats 4000000 in
theorem wk_S_narrowCrossing_155 {p : Program} {l : Launch} {e : Env} {s : State} {m : MethodId} {args : Array Value} {below : List Frame} {meth : Method} {c : Code} {A : Nat → Prop} {D : va_G} {cI cZ cL : ClassId} {a : Nat → Nat} (cx : zz_Cx p s m args meth c "GridFills$Search" b_S_narrowCrossing 11 none D zz_cl (zz_ty cI cZ cL) A) (post : zz_St → Prop) {kn73 : Int32 → Int32 → Int32 → Int32 → Int32 → zz_St → Prop} (hkn73 : ∀ (x2 : Int32) (x3 : Int32) (x5 : Int32) (x6 : Int32) (x7 : Int32) (u : zz_St) (H : Heap) (locs : List Loc) (ls : Array Slot), zz_Wd D zz_cl A s.heap H locs (gw_C cI cZ cL a u) → lv_has ls 11 [(0, .ref (a 4)), (2, .int x2), (3, .int x3), (5, .int x5), (6, .int x6), (7, .int x7)] → kn73 x2 x3 x5 x6 x7 u → W p l e (rm_S_narrowCrossing) s m args below meth c H locs 0 0 (MQ below (va_Qv post (zz_B D zz_cl (zz_ty cI cZ cL) (gw_C cI cZ cL a) A) A) args s 0 0 A) (F0 m 73 ls [])) : ∀ (x2 : Int32) (x3 : Int32) (x5 : Int32) (x6 : Int32) (x7 : Int32) (u : zz_St) (H : Heap) (locs : List Loc) (ls : Array Slot), zz_Wd D zz_cl A s.heap H locs (gw_C cI cZ cL a u) → lv_has ls 11 [(0, .ref (a 4)), (2, .int x2), (3, .int x3), (5, .int x5), (6, .int x6), (7, .int x7)] → wp_S_narrowCrossing_155 post kn73 x2 x3 x5 x6 x7 u → W p l e (rm_S_narrowCrossing) s m args below meth c H locs 0 0 (MQ below (va_Qv post (zz_B D zz_cl (zz_ty cI cZ cL) (gw_C cI cZ cL a) A) A) args s 0 0 A) (F0 m 155 ls []) := by
  intro x2 x3 x5 x6 x7 u H locs ls hw hl h
  unfold wp_S_narrowCrossing_155 at h
  obtain ⟨hx, hb, hr, hml, hown, hts, hlk, hK, hA⟩ := id cx
  refine lv_iinc (v := x7 + 1) (lv' := [(7, .int (x7 + 1)), (0, .ref (a 4)), (2, .int x2), (3, .int x3), (5, .int x5), (6, .int x6)]) hx hb d_S_narrowCrossing_155 hl (k := 5) rfl rfl (by decide) rfl (fun ls hl => ?_)
  refine lv_goto (tgt := 73) hx hb d_S_narrowCrossing_158 (by decide) ?_
  exact hkn73 x2 x3 x5 x6 (x7 + 1) u _ _ _ hw (lv_sub hl [1, 2, 3, 4, 5, 0] rfl) h
set_option maxRecDepth 100000 in
set_option maxHeartbeats 4000000 in
theorem wk_S_narrowCrossing_73 {p : Program} {l : Launch} {e : Env} {s : State} {m : MethodId} {args : Array Value} {below : List Frame} {meth : Method} {c : Code} {A : Nat → Prop} {D : va_G} {cI cZ cL : ClassId} {a : Nat → Nat} (cx : zz_Cx p s m args meth c "GridFills$Search" b_S_narrowCrossing 11 none D zz_cl (zz_ty cI cZ cL) A) (post : zz_St → Prop) {kn73 : Int32 → Int32 → Int32 → Int32 → Int32 → zz_St → Prop} (hkn73 : ∀ (x2 : Int32) (x3 : Int32) (x5 : Int32) (x6 : Int32) (x7 : Int32) (u : zz_St) (H : Heap) (locs : List Loc) (ls : Array Slot), zz_Wd D zz_cl A s.heap H locs (gw_C cI cZ cL a u) → lv_has ls 11 [(0, .ref (a 4)), (2, .int x2), (3, .int x3), (5, .int x5), (6, .int x6), (7, .int x7)] → kn73 x2 x3 x5 x6 x7 u → W p l e (rm_S_narrowCrossing) s m args below meth c H locs 0 0 (MQ below (va_Qv post (zz_B D zz_cl (zz_ty cI cZ cL) (gw_C cI cZ cL a) A) A) args s 0 0 A) (F0 m 73 ls [])) : ∀ (x2 : Int32) (x3 : Int32) (x5 : Int32) (x6 : Int32) (x7 : Int32) (u : zz_St) (H : Heap) (locs : List Loc) (ls : Array Slot), zz_Wd D zz_cl A s.heap H locs (gw_C cI cZ cL a u) → lv_has ls 11 [(0, .ref (a 4)), (2, .int x2), (3, .int x3), (5, .int x5), (6, .int x6), (7, .int x7)] → wp_S_narrowCrossing_73 post kn73 x2 x3 x5 x6 x7 u → W p l e (rm_S_narrowCrossing) s m args below meth c H locs 0 0 (MQ below (va_Qv post (zz_B D zz_cl (zz_ty cI cZ cL) (gw_C cI cZ cL a) A) A) args s 0 0 A) (F0 m 73 ls []) := by
  intro x2 x3 x5 x6 x7 u H locs ls hw hl h
  unfold wp_S_narrowCrossing_73 at h
  obtain ⟨hx, hb, hr, hml, hown, hts, hlk, hK, hA⟩ := id cx
  refine lv_iload hx hb d_S_narrowCrossing_73 (lv_at hl 5 rfl) ?_
  refine lv_aload_n hx hb d_S_narrowCrossing_75 rfl (lv_at hl 0 rfl) ?_
  refine zz_get (v2 := .ref (a 1)) cx hw in_S 4 rfl rfl 0 (by decide) kw_139 rfl rfl d_S_narrowCrossing_76 ?_
  refine zz_get (v2 := .ref (a 8)) cx hw in_G 1 rfl rfl 7 (by decide) kw_140 rfl rfl d_S_narrowCrossing_79 ?_
  refine lv_iload_n hx hb d_S_narrowCrossing_82 rfl (lv_at hl 1 rfl) ?_
  obtain ⟨hi, h⟩ := h
  refine zz_iald (f2 := sg_a u 3) cx hw 8 0 rfl rfl hi rfl d_S_narrowCrossing_83 ?_
  refine lv_icmp_ge (tgt := 161) hx hb d_S_narrowCrossing_84 (by decide) (fun c4 => ?_) (fun c4 => ?_)
  · replace h := h.1 c4
    exact zz_retv cx hw d_S_narrowCrossing_161 h
  · replace h := h.2 c4
    refine lv_aload_n hx hb d_S_narrowCrossing_87 rfl (lv_at hl 0 rfl) ?_
    refine zz_get (v2 := .ref (a 1)) cx hw in_S 4 rfl rfl 0 (by decide) kw_139 rfl rfl d_S_narrowCrossing_88 ?_
    refine lv_iload_n hx hb d_S_narrowCrossing_91 rfl (lv_at hl 1 rfl) ?_
    refine lv_iload hx hb d_S_narrowCrossing_92 (lv_at hl 5 rfl) ?_
    refine zz_callVi (As := [.int x2, .int x7]) (rest := []) cx hw (ct_G_cellOf l D cI cZ cL a h) (zz_gV kw_154 kw_19 kw_20 kw_13 kw_18) hd_G_cellOf ⟨rfl, rfl⟩ ⟨Nat.le_of_ble_eq_true rfl, Nat.le_of_ble_eq_true rfl⟩ 1 rfl rfl rfl rfl hl.1 rfl (Nat.le_of_ble_eq_true rfl) d_S_narrowCrossing_94 (fun r6 s5 H locs h hw => ?_)
    refine lv_istore (lv' := [(8, .int r6), (0, .ref (a 4)), (2, .int x2), (3, .int x3), (5, .int x5), (6, .int x6), (7, .int x7)]) hx hb d_S_narrowCrossing_97 hl (by decide) rfl (fun ls hl => ?_)
    refine lv_aload_n hx hb d_S_narrowCrossing_99 rfl (lv_at hl 1 rfl) ?_
    refine zz_get (v2 := .ref (a 1)) cx hw in_S 4 rfl rfl 0 (by decide) kw_139 rfl rfl d_S_narrowCrossing_100 ?_
    refine lv_iload hx hb d_S_narrowCrossing_103 (lv_at hl 0 rfl) ?_
    refine lv_iload hx hb d_S_narrowCrossing_105 (lv_at hl 5 rfl) ?_
    refine zz_callVi (As := [.int r6, .int x6]) (rest := []) cx hw (ct_G_slotAt l D cI cZ cL a h) (zz_gV kw_181 kw_115 kw_116 kw_13 kw_114) hd_G_slotAt ⟨rfl, rfl⟩ ⟨Nat.le_of_ble_eq_true rfl, Nat.le_of_ble_eq_true rfl⟩ 1 rfl rfl rfl rfl hl.1 rfl (Nat.le_of_ble_eq_true rfl) d_S_narrowCrossing_107 (fun r8 s7 H locs h hw => ?_)
    refine lv_istore (lv' := [(9, .int r8), (8, .int r6), (0, .ref (a 4)), (2, .int x2), (3, .int x3), (5, .int x5), (6, .int x6), (7, .int x7)]) hx hb d_S_narrowCrossing_110 hl (by decide) rfl (fun ls hl => ?_)
    refine lv_iload hx hb d_S_narrowCrossing_112 (lv_at hl 0 rfl) ?_
    refine lv_iconst (v := (-1)) hx hb d_S_narrowCrossing_114 (by decide) ?_
    refine lv_icmp_eq (tgt := 155) hx hb d_S_narrowCrossing_115 (by decide) (fun c9 => ?_) (fun c9 => ?_)
    · replace h := h.1 c9
      exact wk_S_narrowCrossing_155 cx post hkn73 x2 x3 x5 x6 x7 s7 _ _ _ hw (lv_sub hl [2, 3, 4, 5, 6, 7] rfl) h
    · replace h := h.2 c9
      refine lv_aload_n hx hb d_S_narrowCrossing_118 rfl (lv_at hl 2 rfl) ?_
      refine zz_get (v2 := .ref (a 1)) cx hw in_S 4 rfl rfl 0 (by decide) kw_139 rfl rfl d_S_narrowCrossing_119 ?_
      refine lv_iload hx hb d_S_narrowCrossing_122 (lv_at hl 1 rfl) ?_
      refine lv_iload hx hb d_S_narrowCrossing_124 (lv_at hl 6 rfl) ?_
      refine zz_callVi (As := [.int r6, .int x6]) (rest := []) cx hw (ct_G_placeAt l D cI cZ cL a h) (zz_gV kw_180 kw_111 kw_112 kw_13 kw_110) hd_G_placeAt ⟨rfl, rfl⟩ ⟨Nat.le_of_ble_eq_true rfl, Nat.le_of_ble_eq_true rfl⟩ 1 rfl rfl rfl rfl hl.1 rfl (Nat.le_of_ble_eq_true rfl) d_S_narrowCrossing_126 (fun r11 s10 H locs h hw => ?_)
      refine lv_istore (lv' := [(10, .int r11), (9, .int r8), (8, .int r6), (0, .ref (a 4)), (2, .int x2), (3, .int x3), (5, .int x5), (6, .int x6), (7, .int x7)]) hx hb d_S_narrowCrossing_129 hl (by decide) rfl (fun ls hl => ?_)
      refine lv_aload_n hx hb d_S_narrowCrossing_131 rfl (lv_at hl 3 rfl) ?_
      refine lv_iload hx hb d_S_narrowCrossing_132 (lv_at hl 6 rfl) ?_
      refine lv_iload hx hb d_S_narrowCrossing_134 (lv_at hl 1 rfl) ?_
      refine lv_iadd hx hb d_S_narrowCrossing_136 ?_
      refine lv_iload hx hb d_S_narrowCrossing_137 (lv_at hl 0 rfl) ?_
      refine lv_aload_n hx hb d_S_narrowCrossing_139 rfl (lv_at hl 3 rfl) ?_
      refine zz_get (v2 := .ref (a 2)) cx hw in_S 4 rfl rfl 1 (by decide) kw_135 rfl rfl d_S_narrowCrossing_140 ?_
      refine lv_iload_n hx hb d_S_narrowCrossing_143 rfl (lv_at hl 5 rfl) ?_
      refine lv_iload hx hb d_S_narrowCrossing_144 (lv_at hl 8 rfl) ?_
      refine zz_callVi (As := [.int x3, .int x7]) (rest := [.int r11, .int (x5 + r8), .ref (a 4)]) cx hw (ct_L_letterOf l D cI cZ cL a h) (zz_gV kw_179 kw_61 kw_62 kw_60 kw_59) hd_L_letterOf ⟨rfl, rfl⟩ ⟨Nat.le_of_ble_eq_true rfl, Nat.le_of_ble_eq_true rfl⟩ 2 rfl rfl rfl rfl hl.1 rfl (Nat.le_of_ble_eq_true rfl) d_S_narrowCrossing_146 (fun r13 s12 H locs h hw => ?_)
      refine zz_callSi (As := [.int r11, .int r13]) (rest := [.int (x5 + r8), .ref (a 4)]) cx hw (ct_L_keyOf l D cI cZ cL a h) (zz_gS kw_153 kw_85 kw_60 kw_84) hd_L_keyOf ⟨rfl, rfl⟩ ⟨Nat.le_of_ble_eq_true rfl, Nat.le_of_ble_eq_true rfl⟩ rfl hl.1 rfl (Nat.le_of_ble_eq_true rfl) d_S_narrowCrossing_149 (fun r15 s14 H locs h hw => ?_)
      refine zz_callVv (As := [.int (x5 + r8), .int r15]) (rest := []) cx hw (ct_S_narrow l D cI cZ cL a h) (zz_gV kw_148 kw_151 kw_152 kw_150 kw_149) hd_S_narrow ⟨rfl, rfl⟩ ⟨Nat.le_of_ble_eq_true rfl, Nat.le_of_ble_eq_true rfl⟩ 4 rfl rfl rfl rfl hl.1 rfl (Nat.le_of_ble_eq_true rfl) d_S_narrowCrossing_152 (fun s16 H locs h hw => ?_)
      exact wk_S_narrowCrossing_155 cx post hkn73 x2 x3 x5 x6 x7 s16 _ _ _ hw (lv_sub hl [3, 4, 5, 6, 7, 8] rfl) h
set_option maxRecDepth 100000 in
set_option maxHeartbeats 4000000 in
theorem wk_S_narrowCrossing_73_f {p : Program} {l : Launch} {e : Env} {s : State} {m : MethodId} {args : Array Value} {below : List Frame} {meth : Method} {c : Code} {A : Nat → Prop} {D : va_G} {cI cZ cL : ClassId} {a : Nat → Nat} (cx : zz_Cx p s m args meth c "GridFills$Search" b_S_narrowCrossing 11 none D zz_cl (zz_ty cI cZ cL) A) (post : zz_St → Prop) : ∀ n : Nat, ∀ (x2 : Int32) (x3 : Int32) (x5 : Int32) (x6 : Int32) (x7 : Int32) (u : zz_St) (H : Heap) (locs : List Loc) (ls : Array Slot), zz_Wd D zz_cl A s.heap H locs (gw_C cI cZ cL a u) → lv_has ls 11 [(0, .ref (a 4)), (2, .int x2), (3, .int x3), (5, .int x5), (6, .int x6), (7, .int x7)] → wp_S_narrowCrossing_73_f post n x2 x3 x5 x6 x7 u → W p l e (rm_S_narrowCrossing) s m args below meth c H locs 0 0 (MQ below (va_Qv post (zz_B D zz_cl (zz_ty cI cZ cL) (gw_C cI cZ cL a) A) A) args s 0 0 A) (F0 m 73 ls []) := by
  intro n
  induction n with
  | zero => exact fun _ _ _ _ _ _ _ _ _ _ _ h => False.elim h
  | succ n ih => exact wk_S_narrowCrossing_73 cx post ih
set_option maxRecDepth 100000 in
set_option maxHeartbeats 4000000 in
theorem ct_S_narrowCrossing (l : Launch) (D : va_G) (cI cZ cL : ClassId) (a : Nat → Nat) {a0 : Int32} {a1 : Int32} {a2 : Int32} {u : zz_St} {post : zz_St → Prop} (h : wp_S_narrowCrossing  a0 a1 a2 u post) : zz_MV l y_S_narrowCrossing (.code y_S_narrowCrossing b_S_narrowCrossing 11 none :: zz_tbl) (rm_S_narrowCrossing) D zz_cl (zz_ty cI cZ cL) (gw_C cI cZ cL a) [.ref (a 4), .int a0, .int a1, .int a2] u post := by
  unfold wp_S_narrowCrossing at h
  refine zz_ofV (by decide) (Nat.le_of_ble_eq_true rfl) ?_
  intro p e s m below meth c A cx hw ls hl
  obtain ⟨hx, hb, hr, hml, hown, hts, hlk, hK, hA⟩ := id cx
  refine lv_iload_n hx hb d_S_narrowCrossing_0 rfl (lv_at hl 1 rfl) ?_
  refine lv_bipush (v := 24) hx hb d_S_narrowCrossing_1 (by decide) ?_
  refine lv_imul hx hb d_S_narrowCrossing_3 ?_
  refine lv_topi (fun v1 ev1 => ?_)
  replace h := h v1 ev1
  refine lv_istore (lv' := [(4, .int v1), (0, .ref (a 4)), (1, .int a0), (2, .int a1), (3, .int a2)]) hx hb d_S_narrowCrossing_4 hl (by decide) rfl (fun ls hl => ?_)
  refine lv_iload hx hb d_S_narrowCrossing_6 (lv_at hl 0 rfl) ?_
  refine lv_bipush (v := 24) hx hb d_S_narrowCrossing_8 (by decide) ?_
  refine lv_iadd hx hb d_S_narrowCrossing_10 ?_
  refine lv_topi (fun v2 ev2 => ?_)
  replace h := h v2 ev2
  refine lv_istore (lv' := [(5, .int v2), (4, .int v1), (0, .ref (a 4)), (1, .int a0), (2, .int a1), (3, .int a2)]) hx hb d_S_narrowCrossing_11 hl (by decide) rfl (fun ls hl => ?_)
  refine lv_aload_n hx hb d_S_narrowCrossing_13 rfl (lv_at hl 2 rfl) ?_
  refine zz_get (v2 := .ref (a 26)) cx hw in_S 4 rfl rfl 3 (by decide) kw_134 rfl rfl d_S_narrowCrossing_14 ?_
  refine lv_iload hx hb d_S_narrowCrossing_17 (lv_at hl 1 rfl) ?_
  refine lv_aload_n hx hb d_S_narrowCrossing_19 rfl (lv_at hl 2 rfl) ?_
  refine zz_get (v2 := .ref (a 26)) cx hw in_S 4 rfl rfl 3 (by decide) kw_134 rfl rfl d_S_narrowCrossing_20 ?_
  refine lv_iload hx hb d_S_narrowCrossing_23 (lv_at hl 0 rfl) ?_
  refine lv_aload_n hx hb d_S_narrowCrossing_25 rfl (lv_at hl 2 rfl) ?_
  refine zz_get (v2 := .ref (a 1)) cx hw in_S 4 rfl rfl 0 (by decide) kw_139 rfl rfl d_S_narrowCrossing_26 ?_
  refine zz_get (v2 := .int (sg_i u 3)) cx hw in_G 1 rfl rfl 5 (by decide) kw_165 rfl rfl d_S_narrowCrossing_29 ?_
  obtain ⟨h1, h2, h3, h4, h5, h⟩ := h
  refine zz_copyl (ws' := gw_C cI cZ cL a (ss_b u 4 (va_cpy (sg_b u 4) (sg_b u 4) v1.toNatClampNeg v2.toNatClampNeg (sg_i u 3).toNatClampNeg))) cx hw hl.1 kw_177 kw_87 kw_88 kw_89 26 26 2 rfl rfl rfl rfl (fun _ => rfl) rfl rfl h1 h2 h3 h4 h5 (Nat.le_of_ble_eq_true rfl) (Nat.le_of_ble_eq_true rfl) (gw_C_b4 _ _ _ _ _ _) d_S_narrowCrossing_32 (fun H locs hw => ?_)
  refine lv_aload_n hx hb d_S_narrowCrossing_35 rfl (lv_at hl 2 rfl) ?_
  refine zz_get (v2 := .ref (a 27)) cx hw in_S 4 rfl rfl 4 (by decide) kw_137 rfl rfl d_S_narrowCrossing_36 ?_
  refine lv_iload hx hb d_S_narrowCrossing_39 (lv_at hl 1 rfl) ?_
  refine lv_aload_n hx hb d_S_narrowCrossing_41 rfl (lv_at hl 2 rfl) ?_
  refine zz_get (v2 := .ref (a 27)) cx hw in_S 4 rfl rfl 4 (by decide) kw_137 rfl rfl d_S_narrowCrossing_42 ?_
  refine lv_iload hx hb d_S_narrowCrossing_45 (lv_at hl 0 rfl) ?_
  refine lv_aload_n hx hb d_S_narrowCrossing_47 rfl (lv_at hl 2 rfl) ?_
  refine zz_get (v2 := .ref (a 1)) cx hw in_S 4 rfl rfl 0 (by decide) kw_139 rfl rfl d_S_narrowCrossing_48 ?_
  refine zz_get (v2 := .int (sg_i u 3)) cx hw in_G 1 rfl rfl 5 (by decide) kw_165 rfl (congrArg Value.int (sx_ib _ _ _ _)) d_S_narrowCrossing_51 ?_
  obtain ⟨h1, h2, h3, h4, h5, h⟩ := h
  refine zz_copyl (ws' := gw_C cI cZ cL a (ss_b (ss_b u 4 (va_cpy (sg_b u 4) (sg_b u 4) v1.toNatClampNeg v2.toNatClampNeg (sg_i u 3).toNatClampNeg)) 5 (va_cpy (sg_b u 5) (sg_b u 5) v1.toNatClampNeg v2.toNatClampNeg (sg_i u 3).toNatClampNeg))) cx hw hl.1 kw_177 kw_87 kw_88 kw_89 27 27 2 rfl rfl rfl rfl (fun _ => rfl) (sy_b _ _ (by decide)) (sy_b _ _ (by decide)) h1 h2 h3 h4 h5 (Nat.le_of_ble_eq_true rfl) (Nat.le_of_ble_eq_true rfl) (gw_C_b5 _ _ _ _ _ _) d_S_narrowCrossing_54 (fun H locs hw => ?_)
  refine lv_iconst (v := 1) hx hb d_S_narrowCrossing_57 (by decide) ?_
  refine lv_aload_n hx hb d_S_narrowCrossing_58 rfl (lv_at hl 2 rfl) ?_
  refine zz_get (v2 := .ref (a 1)) cx hw in_S 4 rfl rfl 0 (by decide) kw_139 rfl rfl d_S_narrowCrossing_59 ?_
  refine zz_get (v2 := .ref (a 9)) cx hw in_G 1 rfl rfl 8 (by decide) kw_178 rfl rfl d_S_narrowCrossing_62 ?_
  refine lv_iload_n hx hb d_S_narrowCrossing_65 rfl (lv_at hl 4 rfl) ?_
  obtain ⟨hi, h⟩ := h
  refine zz_iald (f2 := sg_a u 4) cx hw 9 0 rfl rfl hi ((sx_ab _ _ _ _).trans (sx_ab _ _ _ _)) d_S_narrowCrossing_66 ?_
  refine lv_isub hx hb d_S_narrowCrossing_67 ?_
  refine lv_topi (fun v3 ev3 => ?_)
  replace h := h v3 ev3
  refine lv_istore (lv' := [(6, .int v3), (5, .int v2), (4, .int v1), (0, .ref (a 4)), (1, .int a0), (2, .int a1), (3, .int a2)]) hx hb d_S_narrowCrossing_68 hl (by decide) rfl (fun ls hl => ?_)
  refine lv_iconst (v := 0) hx hb d_S_narrowCrossing_70 (by decide) ?_
  refine lv_istore (lv' := [(7, .int 0), (6, .int v3), (5, .int v2), (4, .int v1), (0, .ref (a 4)), (1, .int a0), (2, .int a1), (3, .int a2)]) hx hb d_S_narrowCrossing_71 hl (by decide) rfl (fun ls hl => ?_)
  obtain ⟨n, h⟩ := h
  exact wk_S_narrowCrossing_73_f cx post  n a1 a2 v2 v3 0 (ss_b (ss_b u 4 (va_cpy (sg_b u 4) (sg_b u 4) v1.toNatClampNeg v2.toNatClampNeg (sg_i u 3).toNatClampNeg)) 5 (va_cpy (sg_b u 5) (sg_b u 5) v1.toNatClampNeg v2.toNatClampNeg (sg_i u 3).toNatClampNeg)) _ _ _ hw (lv_sub hl [4, 6, 7, 2, 1, 0] rfl) h
