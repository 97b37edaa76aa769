set_option maxRecDepth 100000 in
set_option maxHeartbeats 4000000 in
theorem ct_S_tryWord (l : Launch) (D : va_G) (cI cZ cL : ClassId) (a : Nat → Nat) {d : Nat} {WF : Int32 → zz_St → (Int32 → zz_St → Prop) → Prop} (hWF : ∀ {x : Int32} {u : zz_St} {post : Int32 → zz_St → Prop}, WF x u post → zz_MI l y_S_fillFrom (.code y_S_fillFrom b_S_fillFrom 10 (some .boolean) :: zz_tbl) (rm_S_fillFrom d) D zz_cl (zz_ty cI cZ cL) (gw_C cI cZ cL a) [.ref (a 4), .int x] u post) {a0 : Int32} {a1 : Int32} {a2 : Int32} {u : zz_St} {post : Int32 → zz_St → Prop} (h : wp_S_tryWord WF  a0 a1 a2 u post) : zz_MI l y_S_tryWord (.code y_S_tryWord b_S_tryWord 6 (some .boolean) :: zz_tbl) (rm_S_tryWord d) D zz_cl (zz_ty cI cZ cL) (gw_C cI cZ cL a) [.ref (a 4), .int a0, .int a1, .int a2] u post := by
  unfold wp_S_tryWord at h
  refine zz_ofI (by decide) (Nat.le_of_ble_eq_true rfl) ?_
  intro p e s m below meth c A cx hw ls hl
  obtain ⟨hx, hb, hr, hml, hown, hts, hlk, hK, hA⟩ := id cx
  refine lv_aload_n hx hb d_S_tryWord_0 rfl (lv_at hl 0 rfl) ?_
  refine zz_get (v2 := .int (sg_i u 11)) cx hw in_S 4 rfl rfl 12 (by decide) kw_256 rfl rfl d_S_tryWord_1 ?_
  refine lv_aload_n hx hb d_S_tryWord_4 rfl (lv_at hl 0 rfl) ?_
  refine zz_get (v2 := .int (sg_i u 8)) cx hw in_S 4 rfl rfl 9 (by decide) kw_257 rfl rfl d_S_tryWord_5 ?_
  refine lv_icmp_lt (tgt := 18) hx hb d_S_tryWord_8 (by decide) (fun c1 => ?_) (fun c1 => ?_)
  · replace h := h.1 c1
    refine lv_aload_n hx hb d_S_tryWord_18 rfl (lv_at hl 0 rfl) ?_
    refine lv_dup hx hb d_S_tryWord_19 rfl ?_
    refine zz_get (v2 := .int (sg_i u 11)) cx hw in_S 4 rfl rfl 12 (by decide) kw_256 rfl rfl d_S_tryWord_20 ?_
    refine lv_iconst (v := 1) hx hb d_S_tryWord_23 (by decide) ?_
    refine lv_iadd hx hb d_S_tryWord_24 ?_
    refine lv_topi (fun v2 ev2 => ?_)
    replace h := h v2 ev2
    refine zz_put (v := .int v2) (ws' := gw_C cI cZ cL a (ss_i u 11 v2)) cx hw in_S ty_S tk_S nm_S 4 rfl rfl 12 (by decide) kw_256 rfl ⟨rfl, rfl⟩ (Nat.le_of_ble_eq_true rfl) (gw_C_i11 _ _ _ _ _ _) d_S_tryWord_25 (fun H locs hw => ?_)
    refine lv_aload_n hx hb d_S_tryWord_28 rfl (lv_at hl 0 rfl) ?_
    refine zz_get (v2 := .ref (a 2)) cx hw in_S 4 rfl rfl 1 (by decide) kw_135 rfl rfl d_S_tryWord_29 ?_
    refine zz_get (v2 := .ref (a 16)) cx hw in_L 2 rfl rfl 3 (by decide) kw_258 rfl rfl d_S_tryWord_32 ?_
    refine lv_iload_n hx hb d_S_tryWord_35 rfl (lv_at hl 3 rfl) ?_
    obtain ⟨hi, h⟩ := h
    refine zz_iald (f2 := sg_a u 11) cx hw 16 0 rfl rfl hi (sx_ai _ _ _ _) d_S_tryWord_36 ?_
    refine lv_topi (fun v3 ev3 => ?_)
    replace h := h v3 ev3
    refine lv_istore (lv' := [(4, .int v3), (0, .ref (a 4)), (1, .int a0), (2, .int a1), (3, .int a2)]) hx hb d_S_tryWord_37 hl (by decide) rfl (fun ls hl => ?_)
    refine lv_aload_n hx hb d_S_tryWord_39 rfl (lv_at hl 1 rfl) ?_
    refine zz_get (v2 := .ref (a 21)) cx hw in_S 4 rfl rfl 5 (by decide) kw_166 rfl rfl d_S_tryWord_40 ?_
    refine lv_iload_n hx hb d_S_tryWord_43 rfl (lv_at hl 3 rfl) ?_
    refine lv_iload hx hb d_S_tryWord_44 (lv_at hl 0 rfl) ?_
    obtain ⟨hi, h⟩ := h
    refine zz_iast (ws' := gw_C cI cZ cL a (ss_a (ss_i u 11 v2) 16 (upd (sg_a u 16) a1.toNatClampNeg v3))) cx hw 21 0 rfl rfl hi (sx_ai _ _ _ _) (gw_C_a16 _ _ _ _ _ _) d_S_tryWord_46 (fun H locs hw => ?_)
    refine lv_aload_n hx hb d_S_tryWord_47 rfl (lv_at hl 1 rfl) ?_
    refine lv_dup hx hb d_S_tryWord_48 rfl ?_
    refine zz_get (v2 := .long (sg_l u 0)) cx hw in_S 4 rfl rfl 6 (by decide) kw_164 rfl (congrArg Value.long ((sx_la _ _ _ _).trans (sx_li _ _ _ _))) d_S_tryWord_49 ?_
    refine lv_iload_n hx hb d_S_tryWord_52 rfl (lv_at hl 4 rfl) ?_
    refine zz_callSl (As := [.int a2]) (rest := [.long (sg_l u 0), .ref (a 4)]) cx hw (ct_L_lowBit l D cI cZ cL a h) (zz_gS kw_146 kw_82 kw_60 kw_81) hd_L_lowBit ⟨rfl, rfl⟩ ⟨by simp only [rm_S_fillFrom, rm_S_tryWord, rm_L_lowBit]; omega, by simp only [rm_S_fillFrom, rm_S_tryWord, rm_L_lowBit]; omega⟩ rfl hl.1 rfl (Nat.le_of_ble_eq_true rfl) d_S_tryWord_53 (fun r5 s4 H locs h hw => ?_)
    refine lv_lor hx hb d_S_tryWord_56 ?_
    refine lv_topl (fun v6 ev6 => ?_)
    replace h := h v6 ev6
    refine zz_put (v := .long v6) (ws' := gw_C cI cZ cL a (ss_l s4 0 v6)) cx hw in_S ty_S tk_S nm_S 4 rfl rfl 6 (by decide) kw_164 rfl ⟨rfl, rfl⟩ (Nat.le_of_ble_eq_true rfl) (gw_C_l0 _ _ _ _ _ _) d_S_tryWord_57 (fun H locs hw => ?_)
    refine lv_aload_n hx hb d_S_tryWord_60 rfl (lv_at hl 1 rfl) ?_
    refine lv_dup hx hb d_S_tryWord_61 rfl ?_
    refine zz_get (v2 := .long (sg_l s4 1)) cx hw in_S 4 rfl rfl 7 (by decide) kw_163 rfl (congrArg Value.long (sy_l _ _ (by decide))) d_S_tryWord_62 ?_
    refine lv_iload_n hx hb d_S_tryWord_65 rfl (lv_at hl 4 rfl) ?_
    refine zz_callSl (As := [.int a2]) (rest := [.long (sg_l s4 1), .ref (a 4)]) cx hw (ct_L_highBit l D cI cZ cL a h) (zz_gS kw_145 kw_79 kw_60 kw_78) hd_L_highBit ⟨rfl, rfl⟩ ⟨by simp only [rm_S_fillFrom, rm_S_tryWord, rm_L_highBit]; omega, by simp only [rm_S_fillFrom, rm_S_tryWord, rm_L_highBit]; omega⟩ rfl hl.1 rfl (Nat.le_of_ble_eq_true rfl) d_S_tryWord_66 (fun r8 s7 H locs h hw => ?_)
    refine lv_lor hx hb d_S_tryWord_69 ?_
    refine lv_topl (fun v9 ev9 => ?_)
    replace h := h v9 ev9
    refine zz_put (v := .long v9) (ws' := gw_C cI cZ cL a (ss_l s7 1 v9)) cx hw in_S ty_S tk_S nm_S 4 rfl rfl 7 (by decide) kw_163 rfl ⟨rfl, rfl⟩ (Nat.le_of_ble_eq_true rfl) (gw_C_l1 _ _ _ _ _ _) d_S_tryWord_70 (fun H locs hw => ?_)
    refine lv_aload_n hx hb d_S_tryWord_73 rfl (lv_at hl 1 rfl) ?_
    refine lv_dup hx hb d_S_tryWord_74 rfl ?_
    refine zz_get (v2 := .int (sg_i s7 7)) cx hw in_S 4 rfl rfl 8 (by decide) kw_168 rfl (congrArg Value.int (sx_il _ _ _ _)) d_S_tryWord_75 ?_
    refine lv_aload_n hx hb d_S_tryWord_78 rfl (lv_at hl 1 rfl) ?_
    refine zz_get (v2 := .ref (a 2)) cx hw in_S 4 rfl rfl 1 (by decide) kw_135 rfl rfl d_S_tryWord_79 ?_
    refine zz_get (v2 := .ref (a 15)) cx hw in_L 2 rfl rfl 2 (by decide) kw_259 rfl rfl d_S_tryWord_82 ?_
    refine lv_iload hx hb d_S_tryWord_85 (lv_at hl 0 rfl) ?_
    obtain ⟨hi, h⟩ := h
    refine zz_iald (f2 := sg_a s7 10) cx hw 15 0 rfl rfl hi (sx_al _ _ _ _) d_S_tryWord_87 ?_
    refine lv_iadd hx hb d_S_tryWord_88 ?_
    refine lv_topi (fun v10 ev10 => ?_)
    replace h := h v10 ev10
    refine zz_put (v := .int v10) (ws' := gw_C cI cZ cL a (ss_i (ss_l s7 1 v9) 7 v10)) cx hw in_S ty_S tk_S nm_S 4 rfl rfl 8 (by decide) kw_168 rfl ⟨rfl, rfl⟩ (Nat.le_of_ble_eq_true rfl) (gw_C_i7 _ _ _ _ _ _) d_S_tryWord_89 (fun H locs hw => ?_)
    refine lv_aload_n hx hb d_S_tryWord_92 rfl (lv_at hl 1 rfl) ?_
    refine lv_iload_n hx hb d_S_tryWord_93 rfl (lv_at hl 2 rfl) ?_
    refine lv_iload_n hx hb d_S_tryWord_94 rfl (lv_at hl 3 rfl) ?_
    refine lv_iload hx hb d_S_tryWord_95 (lv_at hl 0 rfl) ?_
    refine zz_callVv (As := [.int a0, .int a1, .int v3]) (rest := []) cx hw (ct_S_narrowCrossing l D cI cZ cL a h) (zz_gV kw_264 kw_266 kw_267 kw_150 kw_265) hd_S_narrowCrossing ⟨rfl, rfl⟩ ⟨by simp only [rm_S_fillFrom, rm_S_tryWord, rm_S_narrowCrossing]; omega, by simp only [rm_S_fillFrom, rm_S_tryWord, rm_S_narrowCrossing]; omega⟩ 4 rfl rfl rfl rfl hl.1 rfl (Nat.le_of_ble_eq_true rfl) d_S_tryWord_97 (fun s11 H locs h hw => ?_)
    refine lv_aload_n hx hb d_S_tryWord_100 rfl (lv_at hl 1 rfl) ?_
    refine lv_iload_n hx hb d_S_tryWord_101 rfl (lv_at hl 2 rfl) ?_
    refine lv_iconst (v := 1) hx hb d_S_tryWord_102 (by decide) ?_
    refine lv_iadd hx hb d_S_tryWord_103 ?_
    refine zz_callVi (As := [.int (a0 + 1)]) (rest := []) cx hw (hWF h) (zz_gV kw_260 kw_262 kw_263 kw_150 kw_261) hd_S_fillFrom ⟨rfl, rfl⟩ ⟨by simp only [rm_S_fillFrom, rm_S_tryWord]; omega, by simp only [rm_S_fillFrom, rm_S_tryWord]; omega⟩ 4 rfl rfl rfl rfl hl.1 rfl (Nat.le_of_ble_eq_true rfl) d_S_tryWord_104 (fun r13 s12 H locs h hw => ?_)
    refine lv_istore (lv' := [(5, .int r13), (4, .int v3), (0, .ref (a 4)), (1, .int a0), (2, .int a1), (3, .int a2)]) hx hb d_S_tryWord_107 hl (by decide) rfl (fun ls hl => ?_)
    refine lv_aload_n hx hb d_S_tryWord_109 rfl (lv_at hl 2 rfl) ?_
    refine lv_dup hx hb d_S_tryWord_110 rfl ?_
    refine zz_get (v2 := .int (sg_i s12 7)) cx hw in_S 4 rfl rfl 8 (by decide) kw_168 rfl rfl d_S_tryWord_111 ?_
    refine lv_aload_n hx hb d_S_tryWord_114 rfl (lv_at hl 2 rfl) ?_
    refine zz_get (v2 := .ref (a 2)) cx hw in_S 4 rfl rfl 1 (by decide) kw_135 rfl rfl d_S_tryWord_115 ?_
    refine zz_get (v2 := .ref (a 15)) cx hw in_L 2 rfl rfl 2 (by decide) kw_259 rfl rfl d_S_tryWord_118 ?_
    refine lv_iload hx hb d_S_tryWord_121 (lv_at hl 1 rfl) ?_
    obtain ⟨hi, h⟩ := h
    refine zz_iald (f2 := sg_a s12 10) cx hw 15 0 rfl rfl hi rfl d_S_tryWord_123 ?_
    refine lv_isub hx hb d_S_tryWord_124 ?_
    refine lv_topi (fun v14 ev14 => ?_)
    replace h := h v14 ev14
    refine zz_put (v := .int v14) (ws' := gw_C cI cZ cL a (ss_i s12 7 v14)) cx hw in_S ty_S tk_S nm_S 4 rfl rfl 8 (by decide) kw_168 rfl ⟨rfl, rfl⟩ (Nat.le_of_ble_eq_true rfl) (gw_C_i7 _ _ _ _ _ _) d_S_tryWord_125 (fun H locs hw => ?_)
    refine lv_aload_n hx hb d_S_tryWord_128 rfl (lv_at hl 2 rfl) ?_
    refine lv_dup hx hb d_S_tryWord_129 rfl ?_
    refine zz_get (v2 := .long (sg_l s12 0)) cx hw in_S 4 rfl rfl 6 (by decide) kw_164 rfl (congrArg Value.long (sx_li _ _ _ _)) d_S_tryWord_130 ?_
    refine lv_iload_n hx hb d_S_tryWord_133 rfl (lv_at hl 5 rfl) ?_
    refine zz_callSl (As := [.int a2]) (rest := [.long (sg_l s12 0), .ref (a 4)]) cx hw (ct_L_lowBit l D cI cZ cL a h) (zz_gS kw_146 kw_82 kw_60 kw_81) hd_L_lowBit ⟨rfl, rfl⟩ ⟨by simp only [rm_S_fillFrom, rm_S_tryWord, rm_L_lowBit]; omega, by simp only [rm_S_fillFrom, rm_S_tryWord, rm_L_lowBit]; omega⟩ rfl hl.1 rfl (Nat.le_of_ble_eq_true rfl) d_S_tryWord_134 (fun r16 s15 H locs h hw => ?_)
    refine lv_ldc2 (v := (-1)) hx hb hown (hts _ kw_176) d_S_tryWord_137 ?_
    refine lv_lxor hx hb d_S_tryWord_140 ?_
    refine lv_land hx hb d_S_tryWord_141 ?_
    refine lv_topl (fun v17 ev17 => ?_)
    replace h := h v17 ev17
    refine zz_put (v := .long v17) (ws' := gw_C cI cZ cL a (ss_l s15 0 v17)) cx hw in_S ty_S tk_S nm_S 4 rfl rfl 6 (by decide) kw_164 rfl ⟨rfl, rfl⟩ (Nat.le_of_ble_eq_true rfl) (gw_C_l0 _ _ _ _ _ _) d_S_tryWord_142 (fun H locs hw => ?_)
    refine lv_aload_n hx hb d_S_tryWord_145 rfl (lv_at hl 2 rfl) ?_
    refine lv_dup hx hb d_S_tryWord_146 rfl ?_
    refine zz_get (v2 := .long (sg_l s15 1)) cx hw in_S 4 rfl rfl 7 (by decide) kw_163 rfl (congrArg Value.long (sy_l _ _ (by decide))) d_S_tryWord_147 ?_
    refine lv_iload_n hx hb d_S_tryWord_150 rfl (lv_at hl 5 rfl) ?_
    refine zz_callSl (As := [.int a2]) (rest := [.long (sg_l s15 1), .ref (a 4)]) cx hw (ct_L_highBit l D cI cZ cL a h) (zz_gS kw_145 kw_79 kw_60 kw_78) hd_L_highBit ⟨rfl, rfl⟩ ⟨by simp only [rm_S_fillFrom, rm_S_tryWord, rm_L_highBit]; omega, by simp only [rm_S_fillFrom, rm_S_tryWord, rm_L_highBit]; omega⟩ rfl hl.1 rfl (Nat.le_of_ble_eq_true rfl) d_S_tryWord_151 (fun r19 s18 H locs h hw => ?_)
    refine lv_ldc2 (v := (-1)) hx hb hown (hts _ kw_176) d_S_tryWord_154 ?_
    refine lv_lxor hx hb d_S_tryWord_157 ?_
    refine lv_land hx hb d_S_tryWord_158 ?_
    refine lv_topl (fun v20 ev20 => ?_)
    replace h := h v20 ev20
    refine zz_put (v := .long v20) (ws' := gw_C cI cZ cL a (ss_l s18 1 v20)) cx hw in_S ty_S tk_S nm_S 4 rfl rfl 7 (by decide) kw_163 rfl ⟨rfl, rfl⟩ (Nat.le_of_ble_eq_true rfl) (gw_C_l1 _ _ _ _ _ _) d_S_tryWord_159 (fun H locs hw => ?_)
    refine lv_aload_n hx hb d_S_tryWord_162 rfl (lv_at hl 2 rfl) ?_
    refine zz_get (v2 := .ref (a 21)) cx hw in_S 4 rfl rfl 5 (by decide) kw_166 rfl rfl d_S_tryWord_163 ?_
    refine lv_iload_n hx hb d_S_tryWord_166 rfl (lv_at hl 4 rfl) ?_
    refine lv_iconst (v := (-1)) hx hb d_S_tryWord_167 (by decide) ?_
    obtain ⟨hi, h⟩ := h
    refine zz_iast (ws' := gw_C cI cZ cL a (ss_a (ss_l s18 1 v20) 16 (upd (sg_a s18 16) a1.toNatClampNeg (-1)))) cx hw 21 0 rfl rfl hi (sx_al _ _ _ _) (gw_C_a16 _ _ _ _ _ _) d_S_tryWord_168 (fun H locs hw => ?_)
    refine lv_iload hx hb d_S_tryWord_169 (lv_at hl 0 rfl) ?_
    exact zz_retz cx hw d_S_tryWord_171 h.1 h.2
  · replace h := h.2 c1
    refine lv_aload_n hx hb d_S_tryWord_11 rfl (lv_at hl 0 rfl) ?_
    refine lv_iconst (v := 1) hx hb d_S_tryWord_12 (by decide) ?_
    refine zz_put (v := .int 1) (ws' := gw_C cI cZ cL a (ss_i u 10 1)) cx hw in_S ty_S tk_S nm_S 4 rfl rfl 11 (by decide) kw_268 rfl ⟨rfl, rfl⟩ (Nat.le_of_ble_eq_true rfl) (gw_C_i10 _ _ _ _ _ _) d_S_tryWord_13 (fun H locs hw => ?_)
    refine lv_iconst (v := 0) hx hb d_S_tryWord_16 (by decide) ?_
    exact zz_retz cx hw d_S_tryWord_17 (by decide) h
set_option maxRecDepth 100000 in
set_option maxHeartbeats 4000000 in
theorem wk_S_fillFrom_153 {p : Program} {l : Launch} {e : Env} {s : State} {m : MethodId} {args : Array Value} {below : List Frame} {meth : Method} {c : Code} {A : Nat → Prop} {D : va_G} {cI cZ cL : ClassId} {a : Nat → Nat} {d : Nat} {WF : Int32 → zz_St → (Int32 → zz_St → Prop) → Prop} (hWF : ∀ {x : Int32} {u : zz_St} {post : Int32 → zz_St → Prop}, WF x u post → zz_MI l y_S_fillFrom (.code y_S_fillFrom b_S_fillFrom 10 (some .boolean) :: zz_tbl) (rm_S_fillFrom d) D zz_cl (zz_ty cI cZ cL) (gw_C cI cZ cL a) [.ref (a 4), .int x] u post) (cx : zz_Cx p s m args meth c "GridFills$Search" b_S_fillFrom 10 (some .boolean) D zz_cl (zz_ty cI cZ cL) A) (post : Int32 → zz_St → Prop) {kn86 : Int32 → Int32 → Int64 → Int64 → Int32 → Int32 → zz_St → Prop} (hkn86 : ∀ (x1 : Int32) (x2 : Int32) (x4 : Int64) (x6 : Int64) (x8 : Int32) (x9 : Int32) (u : zz_St) (H : Heap) (locs : List Loc) (ls : Array Slot), zz_Wd D zz_cl A s.heap H locs (gw_C cI cZ cL a u) → lv_has ls 10 [(0, .ref (a 4)), (1, .int x1), (2, .int x2), (4, .long x4), (6, .long x6), (8, .int x8), (9, .int x9)] → kn86 x1 x2 x4 x6 x8 x9 u → W p l e (rm_S_fillFrom (d + 1)) s m args below meth c H locs 0 0 (MQ below (va_Qi post (zz_B D zz_cl (zz_ty cI cZ cL) (gw_C cI cZ cL a) A) A) args s 0 0 A) (F0 m 86 ls [])) : ∀ (x1 : Int32) (x2 : Int32) (x4 : Int64) (x6 : Int64) (x8 : Int32) (x9 : Int32) (u : zz_St) (H : Heap) (locs : List Loc) (ls : Array Slot), zz_Wd D zz_cl A s.heap H locs (gw_C cI cZ cL a u) → lv_has ls 10 [(0, .ref (a 4)), (1, .int x1), (2, .int x2), (4, .long x4), (6, .long x6), (8, .int x8), (9, .int x9)] → wp_S_fillFrom_153 WF post kn86 x1 x2 x4 x6 x8 x9 u → W p l e (rm_S_fillFrom (d + 1)) s m args below meth c H locs 0 0 (MQ below (va_Qi post (zz_B D zz_cl (zz_ty cI cZ cL) (gw_C cI cZ cL a) A) A) args s 0 0 A) (F0 m 153 ls []) := by
  intro x1 x2 x4 x6 x8 x9 u H locs ls hw hl h
  unfold wp_S_fillFrom_153 at h
  obtain ⟨hx, hb, hr, hml, hown, hts, hlk, hK, hA⟩ := id cx
  refine lv_iinc (v := x9 + (-1)) (lv' := [(9, .int (x9 + (-1))), (0, .ref (a 4)), (1, .int x1), (2, .int x2), (4, .long x4), (6, .long x6), (8, .int x8)]) hx hb d_S_fillFrom_153 hl (k := 6) rfl rfl (by decide) rfl (fun ls hl => ?_)
  refine lv_goto (tgt := 86) hx hb d_S_fillFrom_156 (by decide) ?_
  exact hkn86 x1 x2 x4 x6 x8 (x9 + (-1)) u _ _ _ hw (lv_sub hl [1, 2, 3, 4, 5, 6, 0] rfl) h
set_option maxRecDepth 100000 in
set_option maxHeartbeats 4000000 in
theorem wk_S_fillFrom_86 {p : Program} {l : Launch} {e : Env} {s : State} {m : MethodId} {args : Array Value} {below : List Frame} {meth : Method} {c : Code} {A : Nat → Prop} {D : va_G} {cI cZ cL : ClassId} {a : Nat → Nat} {d : Nat} {WF : Int32 → zz_St → (Int32 → zz_St → Prop) → Prop} (hWF : ∀ {x : Int32} {u : zz_St} {post : Int32 → zz_St → Prop}, WF x u post → zz_MI l y_S_fillFrom (.code y_S_fillFrom b_S_fillFrom 10 (some .boolean) :: zz_tbl) (rm_S_fillFrom d) D zz_cl (zz_ty cI cZ cL) (gw_C cI cZ cL a) [.ref (a 4), .int x] u post) (cx : zz_Cx p s m args meth c "GridFills$Search" b_S_fillFrom 10 (some .boolean) D zz_cl (zz_ty cI cZ cL) A) (post : Int32 → zz_St → Prop) {kn86 : Int32 → Int32 → Int64 → Int64 → Int32 → Int32 → zz_St → Prop} (hkn86 : ∀ (x1 : Int32) (x2 : Int32) (x4 : Int64) (x6 : Int64) (x8 : Int32) (x9 : Int32) (u : zz_St) (H : Heap) (locs : List Loc) (ls : Array Slot), zz_Wd D zz_cl A s.heap H locs (gw_C cI cZ cL a u) → lv_has ls 10 [(0, .ref (a 4)), (1, .int x1), (2, .int x2), (4, .long x4), (6, .long x6), (8, .int x8), (9, .int x9)] → kn86 x1 x2 x4 x6 x8 x9 u → W p l e (rm_S_fillFrom (d + 1)) s m args below meth c H locs 0 0 (MQ below (va_Qi post (zz_B D zz_cl (zz_ty cI cZ cL) (gw_C cI cZ cL a) A) A) args s 0 0 A) (F0 m 86 ls [])) : ∀ (x1 : Int32) (x2 : Int32) (x4 : Int64) (x6 : Int64) (x8 : Int32) (x9 : Int32) (u : zz_St) (H : Heap) (locs : List Loc) (ls : Array Slot), zz_Wd D zz_cl A s.heap H locs (gw_C cI cZ cL a u) → lv_has ls 10 [(0, .ref (a 4)), (1, .int x1), (2, .int x2), (4, .long x4), (6, .long x6), (8, .int x8), (9, .int x9)] → wp_S_fillFrom_86 WF post kn86 x1 x2 x4 x6 x8 x9 u → W p l e (rm_S_fillFrom (d + 1)) s m args below meth c H locs 0 0 (MQ below (va_Qi post (zz_B D zz_cl (zz_ty cI cZ cL) (gw_C cI cZ cL a) A) A) args s 0 0 A) (F0 m 86 ls []) := by
  intro x1 x2 x4 x6 x8 x9 u H locs ls hw hl h
  unfold wp_S_fillFrom_86 at h
  obtain ⟨hx, hb, hr, hml, hown, hts, hlk, hK, hA⟩ := id cx
  refine lv_iload hx hb d_S_fillFrom_86 (lv_at hl 6 rfl) ?_
  refine lv_if_le (tgt := 159) hx hb d_S_fillFrom_88 (by decide) (fun c15 => ?_) (fun c15 => ?_)
  · replace h := h.1 c15
    refine lv_iload hx hb d_S_fillFrom_159 (lv_at hl 5 rfl) ?_
    exact zz_retz cx hw d_S_fillFrom_161 h.1 h.2
  · replace h := h.2 c15
    refine lv_iload hx hb d_S_fillFrom_91 (lv_at hl 5 rfl) ?_
    refine lv_if_eq (tgt := 159) hx hb d_S_fillFrom_93 (by decide) (fun c16 => ?_) (fun c16 => ?_)
    · replace h := h.1 c16
      refine lv_iload hx hb d_S_fillFrom_159 (lv_at hl 5 rfl) ?_
      exact zz_retz cx hw d_S_fillFrom_161 h.1 h.2
    · replace h := h.2 c16
      refine lv_lload hx hb d_S_fillFrom_96 (lv_at hl 3 rfl) ?_
      refine lv_lconst (v := 0) hx hb d_S_fillFrom_98 (by decide) ?_
      refine W.lcmp hx hb d_S_fillFrom_99 ?_
      refine lv_if_eq (tgt := 128) hx hb d_S_fillFrom_100 (by decide) (fun c17 => ?_) (fun c17 => ?_)
      · replace h := h.1 c17
        refine lv_aload_n hx hb d_S_fillFrom_128 rfl (lv_at hl 0 rfl) ?_
        refine lv_iload_n hx hb d_S_fillFrom_129 rfl (lv_at hl 1 rfl) ?_
        refine lv_iload_n hx hb d_S_fillFrom_130 rfl (lv_at hl 2 rfl) ?_
        refine lv_bipush (v := 64) hx hb d_S_fillFrom_131 (by decide) ?_
        refine lv_lload hx hb d_S_fillFrom_133 (lv_at hl 4 rfl) ?_
        refine zz_callSi (As := [.long x6]) (rest := [.int 64, .int x2, .int x1, .ref (a 4)]) cx hw (ct_S_lowestBit l D cI cZ cL a h) (zz_gS kw_281 kw_283 kw_150 kw_282) hd_S_lowestBit ⟨rfl, rfl⟩ ⟨by simp only [rm_S_fillFrom, rm_S_tryWord, rm_S_lowestBit]; omega, by simp only [rm_S_fillFrom, rm_S_tryWord, rm_S_lowestBit]; omega⟩ rfl hl.1 rfl (Nat.le_of_ble_eq_true rfl) d_S_fillFrom_135 (fun r19 s18 H locs h hw => ?_)
        refine lv_iadd hx hb d_S_fillFrom_138 ?_
        refine zz_callVi (As := [.int x1, .int x2, .int (64 + r19)]) (rest := []) cx hw (ct_S_tryWord l D cI cZ cL a hWF h) (zz_gV kw_277 kw_279 kw_280 kw_150 kw_278) hd_S_tryWord ⟨rfl, rfl⟩ ⟨by simp only [rm_S_fillFrom, rm_S_tryWord]; omega, by simp only [rm_S_fillFrom, rm_S_tryWord]; omega⟩ 4 rfl rfl rfl rfl hl.1 rfl (Nat.le_of_ble_eq_true rfl) d_S_fillFrom_139 (fun r21 s20 H locs h hw => ?_)
        refine lv_istore (lv' := [(8, .int r21), (0, .ref (a 4)), (1, .int x1), (2, .int x2), (4, .long x4), (6, .long x6), (9, .int x9)]) hx hb d_S_fillFrom_142 hl (by decide) rfl (fun ls hl => ?_)
        refine lv_lload hx hb d_S_fillFrom_144 (lv_at hl 5 rfl) ?_
        refine lv_lload hx hb d_S_fillFrom_146 (lv_at hl 5 rfl) ?_
        refine lv_lconst (v := 1) hx hb d_S_fillFrom_148 (by decide) ?_
        refine lv_lsub hx hb d_S_fillFrom_149 ?_
        refine lv_land hx hb d_S_fillFrom_150 ?_
        refine lv_topl (fun v22 ev22 => ?_)
        replace h := h v22 ev22
        refine lv_lstore (lv' := [(6, .long v22), (8, .int r21), (0, .ref (a 4)), (1, .int x1), (2, .int x2), (4, .long x4), (9, .int x9)]) hx hb d_S_fillFrom_151 hl (by decide) rfl (fun ls hl => ?_)
        exact wk_S_fillFrom_153 hWF cx post hkn86 x1 x2 x4 v22 r21 x9 s20 _ _ _ hw (lv_sub hl [2, 3, 4, 5, 0, 1, 6] rfl) h
      · replace h := h.2 c17
        refine lv_aload_n hx hb d_S_fillFrom_103 rfl (lv_at hl 0 rfl) ?_
        refine lv_iload_n hx hb d_S_fillFrom_104 rfl (lv_at hl 1 rfl) ?_
        refine lv_iload_n hx hb d_S_fillFrom_105 rfl (lv_at hl 2 rfl) ?_
        refine lv_lload hx hb d_S_fillFrom_106 (lv_at hl 3 rfl) ?_
        refine zz_callSi (As := [.long x4]) (rest := [.int x2, .int x1, .ref (a 4)]) cx hw (ct_S_lowestBit l D cI cZ cL a h) (zz_gS kw_281 kw_283 kw_150 kw_282) hd_S_lowestBit ⟨rfl, rfl⟩ ⟨by simp only [rm_S_fillFrom, rm_S_tryWord, rm_S_lowestBit]; omega, by simp only [rm_S_fillFrom, rm_S_tryWord, rm_S_lowestBit]; omega⟩ rfl hl.1 rfl (Nat.le_of_ble_eq_true rfl) d_S_fillFrom_108 (fun r24 s23 H locs h hw => ?_)
        refine zz_callVi (As := [.int x1, .int x2, .int r24]) (rest := []) cx hw (ct_S_tryWord l D cI cZ cL a hWF h) (zz_gV kw_277 kw_279 kw_280 kw_150 kw_278) hd_S_tryWord ⟨rfl, rfl⟩ ⟨by simp only [rm_S_fillFrom, rm_S_tryWord]; omega, by simp only [rm_S_fillFrom, rm_S_tryWord]; omega⟩ 4 rfl rfl rfl rfl hl.1 rfl (Nat.le_of_ble_eq_true rfl) d_S_fillFrom_111 (fun r26 s25 H locs h hw => ?_)
        refine lv_istore (lv' := [(8, .int r26), (0, .ref (a 4)), (1, .int x1), (2, .int x2), (4, .long x4), (6, .long x6), (9, .int x9)]) hx hb d_S_fillFrom_114 hl (by decide) rfl (fun ls hl => ?_)
        refine lv_lload hx hb d_S_fillFrom_116 (lv_at hl 4 rfl) ?_
        refine lv_lload hx hb d_S_fillFrom_118 (lv_at hl 4 rfl) ?_
        refine lv_lconst (v := 1) hx hb d_S_fillFrom_120 (by decide) ?_
        refine lv_lsub hx hb d_S_fillFrom_121 ?_
        refine lv_land hx hb d_S_fillFrom_122 ?_
        refine lv_topl (fun v27 ev27 => ?_)
        replace h := h v27 ev27
        refine lv_lstore (lv' := [(4, .long v27), (8, .int r26), (0, .ref (a 4)), (1, .int x1), (2, .int x2), (6, .long x6), (9, .int x9)]) hx hb d_S_fillFrom_123 hl (by decide) rfl (fun ls hl => ?_)
        refine lv_goto (tgt := 153) hx hb d_S_fillFrom_125 (by decide) ?_
        exact wk_S_fillFrom_153 hWF cx post hkn86 x1 x2 v27 x6 r26 x9 s25 _ _ _ hw (lv_sub hl [2, 3, 4, 0, 5, 1, 6] rfl) h
set_option maxRecDepth 100000 in
set_option maxHeartbeats 4000000 in
theorem wk_S_fillFrom_86_f {p : Program} {l : Launch} {e : Env} {s : State} {m : MethodId} {args : Array Value} {below : List Frame} {meth : Method} {c : Code} {A : Nat → Prop} {D : va_G} {cI cZ cL : ClassId} {a : Nat → Nat} {d : Nat} {WF : Int32 → zz_St → (Int32 → zz_St → Prop) → Prop} (hWF : ∀ {x : Int32} {u : zz_St} {post : Int32 → zz_St → Prop}, WF x u post → zz_MI l y_S_fillFrom (.code y_S_fillFrom b_S_fillFrom 10 (some .boolean) :: zz_tbl) (rm_S_fillFrom d) D zz_cl (zz_ty cI cZ cL) (gw_C cI cZ cL a) [.ref (a 4), .int x] u post) (cx : zz_Cx p s m args meth c "GridFills$Search" b_S_fillFrom 10 (some .boolean) D zz_cl (zz_ty cI cZ cL) A) (post : Int32 → zz_St → Prop) : ∀ n : Nat, ∀ (x1 : Int32) (x2 : Int32) (x4 : Int64) (x6 : Int64) (x8 : Int32) (x9 : Int32) (u : zz_St) (H : Heap) (locs : List Loc) (ls : Array Slot), zz_Wd D zz_cl A s.heap H locs (gw_C cI cZ cL a u) → lv_has ls 10 [(0, .ref (a 4)), (1, .int x1), (2, .int x2), (4, .long x4), (6, .long x6), (8, .int x8), (9, .int x9)] → wp_S_fillFrom_86_f WF post n x1 x2 x4 x6 x8 x9 u → W p l e (rm_S_fillFrom (d + 1)) s m args below meth c H locs 0 0 (MQ below (va_Qi post (zz_B D zz_cl (zz_ty cI cZ cL) (gw_C cI cZ cL a) A) A) args s 0 0 A) (F0 m 86 ls []) := by
  intro n
  induction n with
  | zero => exact fun _ _ _ _ _ _ _ _ _ _ _ _ h => False.elim h
  | succ n ih => exact wk_S_fillFrom_86 hWF cx post ih
set_option maxRecDepth 100000 in
set_option maxHeartbeats 4000000 in
theorem ct_S_fillB (l : Launch) (D : va_G) (cI cZ cL : ClassId) (a : Nat → Nat) {d : Nat} {WF : Int32 → zz_St → (Int32 → zz_St → Prop) → Prop} (hWF : ∀ {x : Int32} {u : zz_St} {post : Int32 → zz_St → Prop}, WF x u post → zz_MI l y_S_fillFrom (.code y_S_fillFrom b_S_fillFrom 10 (some .boolean) :: zz_tbl) (rm_S_fillFrom d) D zz_cl (zz_ty cI cZ cL) (gw_C cI cZ cL a) [.ref (a 4), .int x] u post) {a0 : Int32} {u : zz_St} {post : Int32 → zz_St → Prop} (h : wp_S_fillB WF  a0 u post) : zz_MI l y_S_fillFrom (.code y_S_fillFrom b_S_fillFrom 10 (some .boolean) :: zz_tbl) (rm_S_fillFrom (d + 1)) D zz_cl (zz_ty cI cZ cL) (gw_C cI cZ cL a) [.ref (a 4), .int a0] u post := by
  unfold wp_S_fillB at h
  refine zz_ofI (by decide) (Nat.le_of_ble_eq_true rfl) ?_
  intro p e s m below meth c A cx hw ls hl
  obtain ⟨hx, hb, hr, hml, hown, hts, hlk, hK, hA⟩ := id cx
  refine lv_iload_n hx hb d_S_fillFrom_0 rfl (lv_at hl 1 rfl) ?_
  refine lv_aload_n hx hb d_S_fillFrom_1 rfl (lv_at hl 0 rfl) ?_
  refine zz_get (v2 := .ref (a 1)) cx hw in_S 4 rfl rfl 0 (by decide) kw_139 rfl rfl d_S_fillFrom_2 ?_
  refine zz_get (v2 := .int (sg_i u 3)) cx hw in_G 1 rfl rfl 5 (by decide) kw_165 rfl rfl d_S_fillFrom_5 ?_
  refine lv_icmp_lt (tgt := 16) hx hb d_S_fillFrom_8 (by decide) (fun c1 => ?_) (fun c1 => ?_)
  · replace h := h.1 c1
    refine lv_aload_n hx hb d_S_fillFrom_16 rfl (lv_at hl 0 rfl) ?_
    refine lv_iload_n hx hb d_S_fillFrom_17 rfl (lv_at hl 1 rfl) ?_
    refine zz_callVi (As := [.int a0]) (rest := []) cx hw (ct_S_slotWithFewest l D cI cZ cL a h) (zz_gV kw_269 kw_271 kw_272 kw_150 kw_270) hd_S_slotWithFewest ⟨rfl, rfl⟩ ⟨by simp only [rm_S_fillFrom, rm_S_tryWord, rm_S_slotWithFewest]; omega, by simp only [rm_S_fillFrom, rm_S_tryWord, rm_S_slotWithFewest]; omega⟩ 4 rfl rfl rfl rfl hl.1 rfl (Nat.le_of_ble_eq_true rfl) d_S_fillFrom_18 (fun r3 s2 H locs h hw => ?_)
    refine lv_istore_n (lv' := [(2, .int r3), (0, .ref (a 4)), (1, .int a0)]) hx hb d_S_fillFrom_21 rfl hl (by decide) rfl (fun ls hl => ?_)
    refine lv_iload_n hx hb d_S_fillFrom_22 rfl (lv_at hl 0 rfl) ?_
    refine lv_iconst (v := (-1)) hx hb d_S_fillFrom_23 (by decide) ?_
    refine lv_icmp_ne (tgt := 29) hx hb d_S_fillFrom_24 (by decide) (fun c4 => ?_) (fun c4 => ?_)
    · replace h := h.2 c4
      refine lv_iload_n hx hb d_S_fillFrom_29 rfl (lv_at hl 2 rfl) ?_
      refine lv_bipush (v := 24) hx hb d_S_fillFrom_30 (by decide) ?_
      refine lv_imul hx hb d_S_fillFrom_32 ?_
      refine lv_iload_n hx hb d_S_fillFrom_33 rfl (lv_at hl 0 rfl) ?_
      refine lv_iadd hx hb d_S_fillFrom_34 ?_
      refine lv_topi (fun v5 ev5 => ?_)
      replace h := h v5 ev5
      refine lv_istore_n (lv' := [(3, .int v5), (2, .int r3), (0, .ref (a 4)), (1, .int a0)]) hx hb d_S_fillFrom_35 rfl hl (by decide) rfl (fun ls hl => ?_)
      refine lv_aload_n hx hb d_S_fillFrom_36 rfl (lv_at hl 2 rfl) ?_
      refine zz_get (v2 := .ref (a 26)) cx hw in_S 4 rfl rfl 3 (by decide) kw_134 rfl rfl d_S_fillFrom_37 ?_
      refine lv_iload_n hx hb d_S_fillFrom_40 rfl (lv_at hl 0 rfl) ?_
      obtain ⟨hi, h⟩ := h
      refine zz_lald (f2 := sg_b s2 4) cx hw 26 2 rfl rfl hi rfl d_S_fillFrom_41 ?_
      refine lv_aload_n hx hb d_S_fillFrom_42 rfl (lv_at hl 2 rfl) ?_
      refine zz_get (v2 := .long (sg_l s2 0)) cx hw in_S 4 rfl rfl 6 (by decide) kw_164 rfl rfl d_S_fillFrom_43 ?_
      refine lv_ldc2 (v := (-1)) hx hb hown (hts _ kw_176) d_S_fillFrom_46 ?_
      refine lv_lxor hx hb d_S_fillFrom_49 ?_
      refine lv_land hx hb d_S_fillFrom_50 ?_
      refine lv_topl (fun v6 ev6 => ?_)
      replace h := h v6 ev6
      refine lv_lstore (lv' := [(4, .long v6), (3, .int v5), (2, .int r3), (0, .ref (a 4)), (1, .int a0)]) hx hb d_S_fillFrom_51 hl (by decide) rfl (fun ls hl => ?_)
      refine lv_aload_n hx hb d_S_fillFrom_53 rfl (lv_at hl 3 rfl) ?_
      refine zz_get (v2 := .ref (a 27)) cx hw in_S 4 rfl rfl 4 (by decide) kw_137 rfl rfl d_S_fillFrom_54 ?_
      refine lv_iload_n hx hb d_S_fillFrom_57 rfl (lv_at hl 1 rfl) ?_
      obtain ⟨hi, h⟩ := h
      refine zz_lald (f2 := sg_b s2 5) cx hw 27 2 rfl rfl hi rfl d_S_fillFrom_58 ?_
      refine lv_aload_n hx hb d_S_fillFrom_59 rfl (lv_at hl 3 rfl) ?_
      refine zz_get (v2 := .long (sg_l s2 1)) cx hw in_S 4 rfl rfl 7 (by decide) kw_163 rfl rfl d_S_fillFrom_60 ?_
      refine lv_ldc2 (v := (-1)) hx hb hown (hts _ kw_176) d_S_fillFrom_63 ?_
      refine lv_lxor hx hb d_S_fillFrom_66 ?_
      refine lv_land hx hb d_S_fillFrom_67 ?_
      refine lv_topl (fun v7 ev7 => ?_)
      replace h := h v7 ev7
      refine lv_lstore (lv' := [(6, .long v7), (4, .long v6), (3, .int v5), (2, .int r3), (0, .ref (a 4)), (1, .int a0)]) hx hb d_S_fillFrom_68 hl (by decide) rfl (fun ls hl => ?_)
      refine lv_iconst (v := 1) hx hb d_S_fillFrom_70 (by decide) ?_
      refine lv_istore (lv' := [(8, .int 1), (6, .long v7), (4, .long v6), (3, .int v5), (2, .int r3), (0, .ref (a 4)), (1, .int a0)]) hx hb d_S_fillFrom_71 hl (by decide) rfl (fun ls hl => ?_)
      refine lv_lload hx hb d_S_fillFrom_73 (lv_at hl 2 rfl) ?_
      refine zz_callSi (As := [.long v6]) (rest := []) cx hw (ct_JL_bitCount l D cI cZ cL a h) (zz_gS kw_155 kw_158 kw_157 kw_156) hd_JL_bitCount ⟨rfl, rfl⟩ ⟨by simp only [rm_S_fillFrom, rm_S_tryWord, rm_JL_bitCount]; omega, by simp only [rm_S_fillFrom, rm_S_tryWord, rm_JL_bitCount]; omega⟩ rfl hl.1 rfl (Nat.le_of_ble_eq_true rfl) d_S_fillFrom_75 (fun r9 s8 H locs h hw => ?_)
      refine lv_lload hx hb d_S_fillFrom_78 (lv_at hl 1 rfl) ?_
      refine zz_callSi (As := [.long v7]) (rest := [.int r9]) cx hw (ct_JL_bitCount l D cI cZ cL a h) (zz_gS kw_155 kw_158 kw_157 kw_156) hd_JL_bitCount ⟨rfl, rfl⟩ ⟨by simp only [rm_S_fillFrom, rm_S_tryWord, rm_JL_bitCount]; omega, by simp only [rm_S_fillFrom, rm_S_tryWord, rm_JL_bitCount]; omega⟩ rfl hl.1 rfl (Nat.le_of_ble_eq_true rfl) d_S_fillFrom_80 (fun r11 s10 H locs h hw => ?_)
      refine lv_iadd hx hb d_S_fillFrom_83 ?_
      refine lv_topi (fun v12 ev12 => ?_)
      replace h := h v12 ev12
      refine lv_istore (lv' := [(9, .int v12), (8, .int 1), (6, .long v7), (4, .long v6), (3, .int v5), (2, .int r3), (0, .ref (a 4)), (1, .int a0)]) hx hb d_S_fillFrom_84 hl (by decide) rfl (fun ls hl => ?_)
      obtain ⟨n, h⟩ := h
      exact wk_S_fillFrom_86_f hWF cx post  n a0 r3 v6 v7 1 v12 s10 _ _ _ hw (lv_sub hl [6, 7, 5, 3, 2, 1, 0] rfl) h
    · replace h := h.1 c4
      refine lv_iconst (v := 1) hx hb d_S_fillFrom_27 (by decide) ?_
      exact zz_retz cx hw d_S_fillFrom_28 (by decide) h
  · replace h := h.2 c1
    refine lv_aload_n hx hb d_S_fillFrom_11 rfl (lv_at hl 0 rfl) ?_
    refine zz_callVi (As := []) (rest := []) cx hw (ct_S_takeFilling l D cI cZ cL a h) (zz_gV kw_273 kw_275 kw_276 kw_150 kw_274) hd_S_takeFilling ⟨rfl, rfl⟩ ⟨by simp only [rm_S_fillFrom, rm_S_tryWord, rm_S_takeFilling]; omega, by simp only [rm_S_fillFrom, rm_S_tryWord, rm_S_takeFilling]; omega⟩ 4 rfl rfl rfl rfl hl.1 rfl (Nat.le_of_ble_eq_true rfl) d_S_fillFrom_12 (fun r14 s13 H locs h hw => ?_)
    exact zz_retz cx hw d_S_fillFrom_15 h.1 h.2
theorem ct_S_fillFrom (l : Launch) (D : va_G) (cI cZ cL : ClassId) (a : Nat → Nat) : ∀ (d : Nat) {x : Int32} {u : zz_St} {post : Int32 → zz_St → Prop}, wp_S_fillFrom d x u post → zz_MI l y_S_fillFrom (.code y_S_fillFrom b_S_fillFrom 10 (some .boolean) :: zz_tbl) (rm_S_fillFrom d) D zz_cl (zz_ty cI cZ cL) (gw_C cI cZ cL a) [.ref (a 4), .int x] u post := by
  intro d
  induction d with
  | zero => exact fun h => False.elim h
  | succ d ih => exact fun h => ct_S_fillB l D cI cZ cL a ih h
set_option maxRecDepth 100000 in
set_option maxHeartbeats 4000000 in
theorem ct_S_seek (l : Launch) (D : va_G) (cI cZ cL : ClassId) (a : Nat → Nat) {a0 : Int32} {a1 : Int32} {u : zz_St} {post : Int32 → zz_St → Prop} (h : wp_S_seek  a0 a1 u post) : zz_MI l y_S_seek (.code y_S_seek b_S_seek 3 (some .int) :: zz_tbl) (rm_S_seek) D zz_cl (zz_ty cI cZ cL) (gw_C cI cZ cL a) [.ref (a 4), .int a0, .int a1] u post := by
  unfold wp_S_seek at h
  refine zz_ofI (by decide) (Nat.le_of_ble_eq_true rfl) ?_
  intro p e s m below meth c A cx hw ls hl
  obtain ⟨hx, hb, hr, hml, hown, hts, hlk, hK, hA⟩ := id cx
  refine lv_aload_n hx hb d_S_seek_0 rfl (lv_at hl 0 rfl) ?_
  refine lv_iload_n hx hb d_S_seek_1 rfl (lv_at hl 1 rfl) ?_
  refine zz_put (v := .int a0) (ws' := gw_C cI cZ cL a (ss_i u 8 a0)) cx hw in_S ty_S tk_S nm_S 4 rfl rfl 9 (by decide) kw_257 rfl ⟨rfl, rfl⟩ (Nat.le_of_ble_eq_true rfl) (gw_C_i8 _ _ _ _ _ _) d_S_seek_2 (fun H locs hw => ?_)
  refine lv_aload_n hx hb d_S_seek_5 rfl (lv_at hl 0 rfl) ?_
  refine lv_iload_n hx hb d_S_seek_6 rfl (lv_at hl 2 rfl) ?_
  obtain ⟨hz, h⟩ := h
  refine zz_put (v := .int a1) (ws' := gw_C cI cZ cL a (ss_i (ss_i u 8 a0) 9 a1)) cx hw in_S ty_S tk_S nm_S 4 rfl rfl 10 (by decide) kw_171 rfl (zz_bz hz) (Nat.le_of_ble_eq_true rfl) (gw_C_i9 _ _ _ _ _ _) d_S_seek_7 (fun H locs hw => ?_)
  refine lv_aload_n hx hb d_S_seek_10 rfl (lv_at hl 0 rfl) ?_
  refine lv_iconst (v := 0) hx hb d_S_seek_11 (by decide) ?_
  refine zz_put (v := .int 0) (ws' := gw_C cI cZ cL a (ss_i (ss_i (ss_i u 8 a0) 9 a1) 10 0)) cx hw in_S ty_S tk_S nm_S 4 rfl rfl 11 (by decide) kw_268 rfl ⟨rfl, rfl⟩ (Nat.le_of_ble_eq_true rfl) (gw_C_i10 _ _ _ _ _ _) d_S_seek_12 (fun H locs hw => ?_)
  refine lv_aload_n hx hb d_S_seek_15 rfl (lv_at hl 0 rfl) ?_
  refine lv_iconst (v := 0) hx hb d_S_seek_16 (by decide) ?_
  refine zz_put (v := .int 0) (ws' := gw_C cI cZ cL a (ss_i (ss_i (ss_i (ss_i u 8 a0) 9 a1) 10 0) 11 0)) cx hw in_S ty_S tk_S nm_S 4 rfl rfl 12 (by decide) kw_256 rfl ⟨rfl, rfl⟩ (Nat.le_of_ble_eq_true rfl) (gw_C_i11 _ _ _ _ _ _) d_S_seek_17 (fun H locs hw => ?_)
  refine lv_aload_n hx hb d_S_seek_20 rfl (lv_at hl 0 rfl) ?_
  refine lv_iconst (v := 0) hx hb d_S_seek_21 (by decide) ?_
  refine zz_put (v := .int 0) (ws' := gw_C cI cZ cL a (ss_i (ss_i (ss_i (ss_i (ss_i u 8 a0) 9 a1) 10 0) 11 0) 12 0)) cx hw in_S ty_S tk_S nm_S 4 rfl rfl 13 (by decide) kw_167 rfl ⟨rfl, rfl⟩ (Nat.le_of_ble_eq_true rfl) (gw_C_i12 _ _ _ _ _ _) d_S_seek_22 (fun H locs hw => ?_)
  refine lv_aload_n hx hb d_S_seek_25 rfl (lv_at hl 0 rfl) ?_
  refine lv_iconst (v := 0) hx hb d_S_seek_26 (by decide) ?_
  refine zz_put (v := .int 0) (ws' := gw_C cI cZ cL a (ss_i (ss_i (ss_i (ss_i (ss_i (ss_i u 8 a0) 9 a1) 10 0) 11 0) 12 0) 7 0)) cx hw in_S ty_S tk_S nm_S 4 rfl rfl 8 (by decide) kw_168 rfl ⟨rfl, rfl⟩ (Nat.le_of_ble_eq_true rfl) (gw_C_i7 _ _ _ _ _ _) d_S_seek_27 (fun H locs hw => ?_)
  refine lv_aload_n hx hb d_S_seek_30 rfl (lv_at hl 0 rfl) ?_
  refine zz_get (v2 := .ref (a 3)) cx hw in_S 4 rfl rfl 2 (by decide) kw_169 rfl rfl d_S_seek_31 ?_
  refine zz_callVv (As := []) (rest := []) cx hw (ct_F_forget l D cI cZ cL a h) (zz_gV kw_288 kw_187 kw_188 kw_119 kw_186) hd_F_forget ⟨rfl, rfl⟩ ⟨Nat.le_of_ble_eq_true rfl, Nat.le_of_ble_eq_true rfl⟩ 3 rfl rfl rfl rfl hl.1 rfl (Nat.le_of_ble_eq_true rfl) d_S_seek_34 (fun s1 H locs h hw => ?_)
  refine lv_aload_n hx hb d_S_seek_37 rfl (lv_at hl 0 rfl) ?_
  refine zz_callVv (As := []) (rest := []) cx hw (ct_S_clearSlots l D cI cZ cL a h) (zz_gV kw_284 kw_286 kw_287 kw_150 kw_285) hd_S_clearSlots ⟨rfl, rfl⟩ ⟨Nat.le_of_ble_eq_true rfl, Nat.le_of_ble_eq_true rfl⟩ 4 rfl rfl rfl rfl hl.1 rfl (Nat.le_of_ble_eq_true rfl) d_S_seek_38 (fun s2 H locs h hw => ?_)
  refine lv_aload_n hx hb d_S_seek_41 rfl (lv_at hl 0 rfl) ?_
  refine lv_iconst (v := 0) hx hb d_S_seek_42 (by decide) ?_
  refine zz_callVi (As := [.int 0]) (rest := []) cx hw (ct_S_fillFrom l D cI cZ cL a 26 h) (zz_gV kw_260 kw_262 kw_263 kw_150 kw_261) hd_S_fillFrom ⟨rfl, rfl⟩ ⟨Nat.le_of_ble_eq_true rfl, Nat.le_of_ble_eq_true rfl⟩ 4 rfl rfl rfl rfl hl.1 rfl (Nat.le_of_ble_eq_true rfl) d_S_seek_43 (fun r4 s3 H locs h hw => ?_)
  refine lv_pop hx hb d_S_seek_46 rfl ?_
  refine lv_aload_n hx hb d_S_seek_47 rfl (lv_at hl 0 rfl) ?_
  refine zz_get (v2 := .int (sg_i s3 10)) cx hw in_S 4 rfl rfl 11 (by decide) kw_268 rfl rfl d_S_seek_48 ?_
  refine lv_if_eq (tgt := 56) hx hb d_S_seek_51 (by decide) (fun c5 => ?_) (fun c5 => ?_)
  · replace h := h.1 c5
    refine lv_aload_n hx hb d_S_seek_56 rfl (lv_at hl 0 rfl) ?_
    refine zz_get (v2 := .int (sg_i s3 12)) cx hw in_S 4 rfl rfl 13 (by decide) kw_167 rfl rfl d_S_seek_57 ?_
    refine lv_if_le (tgt := 67) hx hb d_S_seek_60 (by decide) (fun c6 => ?_) (fun c6 => ?_)
    · replace h := h.1 c6
      refine lv_iconst (v := 1) hx hb d_S_seek_67 (by decide) ?_
      exact zz_reti cx hw d_S_seek_68 h
    · replace h := h.2 c6
      refine lv_iconst (v := 0) hx hb d_S_seek_63 (by decide) ?_
      refine lv_goto (tgt := 68) hx hb d_S_seek_64 (by decide) ?_
      exact zz_reti cx hw d_S_seek_68 h
  · replace h := h.2 c5
    refine lv_iconst (v := 2) hx hb d_S_seek_54 (by decide) ?_
    exact zz_reti cx hw d_S_seek_55 h
