set_option maxRecDepth 100000 in
set_option maxHeartbeats 4000000 in
theorem ct_X_black (l : Launch) (D : va_G) (cI cZ cL : ClassId) (a : Nat → Nat) {a0 : Int32} {a1 : Int32} {a2 : Int32} {u : zz_St} {post : Int32 → zz_St → Prop} (h : wp_X_black  a0 a1 a2 u post) : zz_MI l y_X_black (.code y_X_black b_X_black 5 (some .boolean) :: zz_tbl) (rm_X_black) D zz_cl (zz_ty cI cZ cL) (gw_C cI cZ cL a) [.ref (a 0), .int a0, .int a1, .int a2] u post := by
  unfold wp_X_black at h
  refine zz_ofI (by decide) (Nat.le_of_ble_eq_true rfl) ?_
  intro p e s m below meth c A cx hw ls hl
  obtain ⟨hx, hb, hr, hml, hown, hts, hlk, hK, hA⟩ := id cx
  refine lv_aload_n hx hb d_X_black_0 rfl (lv_at hl 0 rfl) ?_
  refine zz_get (v2 := .ref (a 1)) cx hw in_X 0 rfl rfl 0 (by decide) kw_182 rfl rfl d_X_black_1 ?_
  refine lv_iload_n hx hb d_X_black_4 rfl (lv_at hl 1 rfl) ?_
  refine lv_iload_n hx hb d_X_black_5 rfl (lv_at hl 2 rfl) ?_
  refine zz_callVi (As := [.int a0, .int a1]) (rest := []) cx hw (ct_G_cellAt l D cI cZ cL a h) (zz_gV kw_193 kw_14 kw_15 kw_13 kw_12) hd_G_cellAt ⟨rfl, rfl⟩ ⟨Nat.le_of_ble_eq_true rfl, Nat.le_of_ble_eq_true rfl⟩ 1 rfl rfl rfl rfl hl.1 rfl (Nat.le_of_ble_eq_true rfl) d_X_black_6 (fun r2 s1 H locs h hw => ?_)
  refine lv_istore (lv' := [(4, .int r2), (0, .ref (a 0)), (1, .int a0), (2, .int a1), (3, .int a2)]) hx hb d_X_black_9 hl (by decide) rfl (fun ls hl => ?_)
  refine lv_iload hx hb d_X_black_11 (lv_at hl 0 rfl) ?_
  refine lv_iconst (v := (-1)) hx hb d_X_black_13 (by decide) ?_
  refine lv_icmp_eq (tgt := 31) hx hb d_X_black_14 (by decide) (fun c3 => ?_) (fun c3 => ?_)
  · replace h := h.1 c3
    refine lv_iconst (v := 0) hx hb d_X_black_31 (by decide) ?_
    exact zz_retz cx hw d_X_black_32 (by decide) h
  · replace h := h.2 c3
    refine lv_aload_n hx hb d_X_black_17 rfl (lv_at hl 1 rfl) ?_
    refine zz_get (v2 := .ref (a 1)) cx hw in_X 0 rfl rfl 0 (by decide) kw_182 rfl rfl d_X_black_18 ?_
    refine zz_get (v2 := .ref (a 5)) cx hw in_G 1 rfl rfl 3 (by decide) kw_183 rfl rfl d_X_black_21 ?_
    refine lv_iload hx hb d_X_black_24 (lv_at hl 0 rfl) ?_
    obtain ⟨hi, h⟩ := h
    refine zz_zald (f2 := sg_a s1 0) cx hw 5 1 rfl rfl hi rfl d_X_black_26 ?_
    refine lv_iload_n hx hb d_X_black_27 rfl (lv_at hl 4 rfl) ?_
    refine lv_icmp_ne (tgt := 33) hx hb d_X_black_28 (by decide) (fun c4 => ?_) (fun c4 => ?_)
    · replace h := h.2 c4
      refine lv_aload_n hx hb d_X_black_33 rfl (lv_at hl 1 rfl) ?_
      refine zz_get (v2 := .ref (a 1)) cx hw in_X 0 rfl rfl 0 (by decide) kw_182 rfl rfl d_X_black_34 ?_
      refine lv_iload hx hb d_X_black_37 (lv_at hl 0 rfl) ?_
      refine lv_iload_n hx hb d_X_black_39 rfl (lv_at hl 4 rfl) ?_
      refine zz_callVv (As := [.int r2, .int a2]) (rest := []) cx hw (ct_G_paint l D cI cZ cL a h) (zz_gV kw_189 kw_191 kw_192 kw_13 kw_190) hd_G_paint ⟨rfl, rfl⟩ ⟨Nat.le_of_ble_eq_true rfl, Nat.le_of_ble_eq_true rfl⟩ 1 rfl rfl rfl rfl hl.1 rfl (Nat.le_of_ble_eq_true rfl) d_X_black_40 (fun s5 H locs h hw => ?_)
      refine lv_aload_n hx hb d_X_black_43 rfl (lv_at hl 1 rfl) ?_
      refine zz_get (v2 := .ref (a 3)) cx hw in_X 0 rfl rfl 2 (by decide) kw_184 rfl rfl d_X_black_44 ?_
      refine zz_callVv (As := []) (rest := []) cx hw (ct_F_forget l D cI cZ cL a h) (zz_gV kw_185 kw_187 kw_188 kw_119 kw_186) hd_F_forget ⟨rfl, rfl⟩ ⟨Nat.le_of_ble_eq_true rfl, Nat.le_of_ble_eq_true rfl⟩ 3 rfl rfl rfl rfl hl.1 rfl (Nat.le_of_ble_eq_true rfl) d_X_black_47 (fun s6 H locs h hw => ?_)
      refine lv_iconst (v := 1) hx hb d_X_black_50 (by decide) ?_
      exact zz_retz cx hw d_X_black_51 (by decide) h
    · replace h := h.1 c4
      refine lv_iconst (v := 0) hx hb d_X_black_31 (by decide) ?_
      exact zz_retz cx hw d_X_black_32 (by decide) h
set_option maxRecDepth 100000 in
set_option maxHeartbeats 4000000 in
theorem ct_X_isLetter (l : Launch) (D : va_G) (cI cZ cL : ClassId) (a : Nat → Nat) {a0 : Int32} {u : zz_St} {post : Int32 → zz_St → Prop} (h : wp_X_isLetter  a0 u post) : zz_MI l y_X_isLetter (.code y_X_isLetter b_X_isLetter 1 (some .boolean) :: zz_tbl) (rm_X_isLetter) D zz_cl (zz_ty cI cZ cL) (gw_C cI cZ cL a) [.int a0] u post := by
  unfold wp_X_isLetter at h
  refine zz_ofI (by decide) (Nat.le_of_ble_eq_true rfl) ?_
  intro p e s m below meth c A cx hw ls hl
  obtain ⟨hx, hb, hr, hml, hown, hts, hlk, hK, hA⟩ := id cx
  refine lv_iload_n hx hb d_X_isLetter_0 rfl (lv_at hl 0 rfl) ?_
  refine lv_bipush (v := 97) hx hb d_X_isLetter_1 (by decide) ?_
  refine lv_icmp_lt (tgt := 16) hx hb d_X_isLetter_3 (by decide) (fun c1 => ?_) (fun c1 => ?_)
  · replace h := h.1 c1
    refine lv_iconst (v := 0) hx hb d_X_isLetter_16 (by decide) ?_
    exact zz_retz cx hw d_X_isLetter_17 (by decide) h
  · replace h := h.2 c1
    refine lv_iload_n hx hb d_X_isLetter_6 rfl (lv_at hl 0 rfl) ?_
    refine lv_bipush (v := 122) hx hb d_X_isLetter_7 (by decide) ?_
    refine lv_icmp_gt (tgt := 16) hx hb d_X_isLetter_9 (by decide) (fun c2 => ?_) (fun c2 => ?_)
    · replace h := h.1 c2
      refine lv_iconst (v := 0) hx hb d_X_isLetter_16 (by decide) ?_
      exact zz_retz cx hw d_X_isLetter_17 (by decide) h
    · replace h := h.2 c2
      refine lv_iconst (v := 1) hx hb d_X_isLetter_12 (by decide) ?_
      refine lv_goto (tgt := 17) hx hb d_X_isLetter_13 (by decide) ?_
      exact zz_retz cx hw d_X_isLetter_17 (by decide) h
set_option maxRecDepth 100000 in
set_option maxHeartbeats 4000000 in
theorem ct_X_unit (l : Launch) (D : va_G) (cI cZ cL : ClassId) (a : Nat → Nat) {a0 : Int32} {u : zz_St} {post : Int32 → zz_St → Prop} (h : wp_X_unit  a0 u post) : zz_MI l y_X_unit (.code y_X_unit b_X_unit 2 (some .boolean) :: zz_tbl) (rm_X_unit) D zz_cl (zz_ty cI cZ cL) (gw_C cI cZ cL a) [.ref (a 0), .int a0] u post := by
  unfold wp_X_unit at h
  refine zz_ofI (by decide) (Nat.le_of_ble_eq_true rfl) ?_
  intro p e s m below meth c A cx hw ls hl
  obtain ⟨hx, hb, hr, hml, hown, hts, hlk, hK, hA⟩ := id cx
  refine lv_iload_n hx hb d_X_unit_0 rfl (lv_at hl 1 rfl) ?_
  refine zz_callSi (As := [.int a0]) (rest := []) cx hw (ct_X_isLetter l D cI cZ cL a h) (zz_gS kw_199 kw_202 kw_201 kw_200) hd_X_isLetter ⟨rfl, rfl⟩ ⟨Nat.le_of_ble_eq_true rfl, Nat.le_of_ble_eq_true rfl⟩ rfl hl.1 rfl (Nat.le_of_ble_eq_true rfl) d_X_unit_1 (fun r2 s1 H locs h hw => ?_)
  refine lv_if_eq (tgt := 22) hx hb d_X_unit_4 (by decide) (fun c3 => ?_) (fun c3 => ?_)
  · replace h := h.1 c3
    refine lv_iconst (v := 0) hx hb d_X_unit_22 (by decide) ?_
    exact zz_retz cx hw d_X_unit_23 (by decide) h
  · replace h := h.2 c3
    refine lv_aload_n hx hb d_X_unit_7 rfl (lv_at hl 0 rfl) ?_
    refine zz_get (v2 := .ref (a 2)) cx hw in_X 0 rfl rfl 1 (by decide) kw_194 rfl rfl d_X_unit_8 ?_
    refine lv_iload_n hx hb d_X_unit_11 rfl (lv_at hl 1 rfl) ?_
    refine zz_callVi (As := [.int a0]) (rest := []) cx hw (ct_L_collect l D cI cZ cL a h) (zz_gV kw_195 kw_197 kw_198 kw_60 kw_196) hd_L_collect ⟨rfl, rfl⟩ ⟨Nat.le_of_ble_eq_true rfl, Nat.le_of_ble_eq_true rfl⟩ 2 rfl rfl rfl rfl hl.1 rfl (Nat.le_of_ble_eq_true rfl) d_X_unit_12 (fun r5 s4 H locs h hw => ?_)
    refine lv_if_eq (tgt := 22) hx hb d_X_unit_15 (by decide) (fun c6 => ?_) (fun c6 => ?_)
    · replace h := h.1 c6
      refine lv_iconst (v := 0) hx hb d_X_unit_22 (by decide) ?_
      exact zz_retz cx hw d_X_unit_23 (by decide) h
    · replace h := h.2 c6
      refine lv_iconst (v := 1) hx hb d_X_unit_18 (by decide) ?_
      refine lv_goto (tgt := 23) hx hb d_X_unit_19 (by decide) ?_
      exact zz_retz cx hw d_X_unit_23 (by decide) h
set_option maxRecDepth 100000 in
set_option maxHeartbeats 4000000 in
theorem ct_X_word (l : Launch) (D : va_G) (cI cZ cL : ClassId) (a : Nat → Nat) {a0 : Int32} {u : zz_St} {post : Int32 → zz_St → Prop} (h : wp_X_word  a0 u post) : zz_MI l y_X_word (.code y_X_word b_X_word 3 (some .int) :: zz_tbl) (rm_X_word) D zz_cl (zz_ty cI cZ cL) (gw_C cI cZ cL a) [.ref (a 0), .int a0] u post := by
  unfold wp_X_word at h
  refine zz_ofI (by decide) (Nat.le_of_ble_eq_true rfl) ?_
  intro p e s m below meth c A cx hw ls hl
  obtain ⟨hx, hb, hr, hml, hown, hts, hlk, hK, hA⟩ := id cx
  refine lv_aload_n hx hb d_X_word_0 rfl (lv_at hl 0 rfl) ?_
  refine zz_get (v2 := .ref (a 2)) cx hw in_X 0 rfl rfl 1 (by decide) kw_194 rfl rfl d_X_word_1 ?_
  refine lv_iload_n hx hb d_X_word_4 rfl (lv_at hl 1 rfl) ?_
  refine zz_callVi (As := [.int a0]) (rest := []) cx hw (ct_L_wordFromCollected l D cI cZ cL a h) (zz_gV kw_207 kw_209 kw_210 kw_60 kw_208) hd_L_wordFromCollected ⟨rfl, rfl⟩ ⟨Nat.le_of_ble_eq_true rfl, Nat.le_of_ble_eq_true rfl⟩ 2 rfl rfl rfl rfl hl.1 rfl (Nat.le_of_ble_eq_true rfl) d_X_word_5 (fun r2 s1 H locs h hw => ?_)
  refine lv_istore_n (lv' := [(2, .int r2), (0, .ref (a 0)), (1, .int a0)]) hx hb d_X_word_8 rfl hl (by decide) rfl (fun ls hl => ?_)
  refine lv_aload_n hx hb d_X_word_9 rfl (lv_at hl 1 rfl) ?_
  refine zz_get (v2 := .ref (a 2)) cx hw in_X 0 rfl rfl 1 (by decide) kw_194 rfl rfl d_X_word_10 ?_
  refine zz_callVv (As := []) (rest := []) cx hw (ct_L_dropCollected l D cI cZ cL a h) (zz_gV kw_203 kw_205 kw_206 kw_60 kw_204) hd_L_dropCollected ⟨rfl, rfl⟩ ⟨Nat.le_of_ble_eq_true rfl, Nat.le_of_ble_eq_true rfl⟩ 2 rfl rfl rfl rfl hl.1 rfl (Nat.le_of_ble_eq_true rfl) d_X_word_13 (fun s3 H locs h hw => ?_)
  refine lv_iload_n hx hb d_X_word_16 rfl (lv_at hl 0 rfl) ?_
  exact zz_reti cx hw d_X_word_17 h
set_option maxRecDepth 100000 in
set_option maxHeartbeats 4000000 in
theorem wk_X_given_43 {p : Program} {l : Launch} {e : Env} {s : State} {m : MethodId} {args : Array Value} {below : List Frame} {meth : Method} {c : Code} {A : Nat → Prop} {D : va_G} {cI cZ cL : ClassId} {a : Nat → Nat} (cx : zz_Cx p s m args meth c "GridFills" b_X_given 5 (some .boolean) D zz_cl (zz_ty cI cZ cL) A) (post : Int32 → zz_St → Prop) : ∀ (x3 : Int32) (x4 : Int32) (u : zz_St) (H : Heap) (locs : List Loc) (ls : Array Slot), zz_Wd D zz_cl A s.heap H locs (gw_C cI cZ cL a u) → lv_has ls 5 [(0, .ref (a 0)), (3, .int x3), (4, .int x4)] → wp_X_given_43 post x3 x4 u → W p l e (rm_X_given) s m args below meth c H locs 0 0 (MQ below (va_Qi post (zz_B D zz_cl (zz_ty cI cZ cL) (gw_C cI cZ cL a) A) A) args s 0 0 A) (F0 m 43 ls []) := by
  intro x3 x4 u H locs ls hw hl h
  unfold wp_X_given_43 at h
  obtain ⟨hx, hb, hr, hml, hown, hts, hlk, hK, hA⟩ := id cx
  refine lv_aload_n hx hb d_X_given_43 rfl (lv_at hl 0 rfl) ?_
  refine zz_get (v2 := .ref (a 1)) cx hw in_X 0 rfl rfl 0 (by decide) kw_182 rfl rfl d_X_given_44 ?_
  refine zz_get (v2 := .ref (a 6)) cx hw in_G 1 rfl rfl 4 (by decide) kw_211 rfl rfl d_X_given_47 ?_
  refine lv_iload hx hb d_X_given_50 (lv_at hl 2 rfl) ?_
  refine lv_iload_n hx hb d_X_given_52 rfl (lv_at hl 1 rfl) ?_
  obtain ⟨hi, h⟩ := h
  refine zz_iast (ws' := gw_C cI cZ cL a (ss_a u 1 (upd (sg_a u 1) x4.toNatClampNeg x3))) cx hw 6 0 rfl rfl hi rfl (gw_C_a1 _ _ _ _ _ _) d_X_given_53 (fun H locs hw => ?_)
  refine lv_iconst (v := 1) hx hb d_X_given_54 (by decide) ?_
  exact zz_retz cx hw d_X_given_55 (by decide) h
set_option maxRecDepth 100000 in
set_option maxHeartbeats 4000000 in
theorem ct_X_given (l : Launch) (D : va_G) (cI cZ cL : ClassId) (a : Nat → Nat) {a0 : Int32} {a1 : Int32} {a2 : Int32} {u : zz_St} {post : Int32 → zz_St → Prop} (h : wp_X_given  a0 a1 a2 u post) : zz_MI l y_X_given (.code y_X_given b_X_given 5 (some .boolean) :: zz_tbl) (rm_X_given) D zz_cl (zz_ty cI cZ cL) (gw_C cI cZ cL a) [.ref (a 0), .int a0, .int a1, .int a2] u post := by
  unfold wp_X_given at h
  refine zz_ofI (by decide) (Nat.le_of_ble_eq_true rfl) ?_
  intro p e s m below meth c A cx hw ls hl
  obtain ⟨hx, hb, hr, hml, hown, hts, hlk, hK, hA⟩ := id cx
  refine lv_aload_n hx hb d_X_given_0 rfl (lv_at hl 0 rfl) ?_
  refine zz_get (v2 := .ref (a 1)) cx hw in_X 0 rfl rfl 0 (by decide) kw_182 rfl rfl d_X_given_1 ?_
  refine lv_iload_n hx hb d_X_given_4 rfl (lv_at hl 1 rfl) ?_
  refine lv_iload_n hx hb d_X_given_5 rfl (lv_at hl 2 rfl) ?_
  refine zz_callVi (As := [.int a0, .int a1]) (rest := []) cx hw (ct_G_cellAt l D cI cZ cL a h) (zz_gV kw_193 kw_14 kw_15 kw_13 kw_12) hd_G_cellAt ⟨rfl, rfl⟩ ⟨Nat.le_of_ble_eq_true rfl, Nat.le_of_ble_eq_true rfl⟩ 1 rfl rfl rfl rfl hl.1 rfl (Nat.le_of_ble_eq_true rfl) d_X_given_6 (fun r2 s1 H locs h hw => ?_)
  refine lv_istore (lv' := [(4, .int r2), (0, .ref (a 0)), (1, .int a0), (2, .int a1), (3, .int a2)]) hx hb d_X_given_9 hl (by decide) rfl (fun ls hl => ?_)
  refine lv_iload hx hb d_X_given_11 (lv_at hl 0 rfl) ?_
  refine lv_iconst (v := (-1)) hx hb d_X_given_13 (by decide) ?_
  refine lv_icmp_eq (tgt := 41) hx hb d_X_given_14 (by decide) (fun c3 => ?_) (fun c3 => ?_)
  · replace h := h.1 c3
    refine lv_iconst (v := 0) hx hb d_X_given_41 (by decide) ?_
    exact zz_retz cx hw d_X_given_42 (by decide) h
  · replace h := h.2 c3
    refine lv_aload_n hx hb d_X_given_17 rfl (lv_at hl 1 rfl) ?_
    refine zz_get (v2 := .ref (a 1)) cx hw in_X 0 rfl rfl 0 (by decide) kw_182 rfl rfl d_X_given_18 ?_
    refine zz_get (v2 := .ref (a 5)) cx hw in_G 1 rfl rfl 3 (by decide) kw_183 rfl rfl d_X_given_21 ?_
    refine lv_iload hx hb d_X_given_24 (lv_at hl 0 rfl) ?_
    obtain ⟨hi, h⟩ := h
    refine zz_zald (f2 := sg_a s1 0) cx hw 5 1 rfl rfl hi rfl d_X_given_26 ?_
    refine lv_if_ne (tgt := 41) hx hb d_X_given_27 (by decide) (fun c4 => ?_) (fun c4 => ?_)
    · replace h := h.2 c4
      refine lv_iconst (v := 0) hx hb d_X_given_41 (by decide) ?_
      exact zz_retz cx hw d_X_given_42 (by decide) h
    · replace h := h.1 c4
      refine lv_iload_n hx hb d_X_given_30 rfl (lv_at hl 4 rfl) ?_
      refine lv_if_eq (tgt := 43) hx hb d_X_given_31 (by decide) (fun c5 => ?_) (fun c5 => ?_)
      · replace h := h.1 c5
        exact wk_X_given_43 cx post  a2 r2 s1 _ _ _ hw (lv_sub hl [1, 4, 0] rfl) h
      · replace h := h.2 c5
        refine lv_iload_n hx hb d_X_given_34 rfl (lv_at hl 4 rfl) ?_
        refine zz_callSi (As := [.int a2]) (rest := []) cx hw (ct_X_isLetter l D cI cZ cL a h) (zz_gS kw_199 kw_202 kw_201 kw_200) hd_X_isLetter ⟨rfl, rfl⟩ ⟨Nat.le_of_ble_eq_true rfl, Nat.le_of_ble_eq_true rfl⟩ rfl hl.1 rfl (Nat.le_of_ble_eq_true rfl) d_X_given_35 (fun r7 s6 H locs h hw => ?_)
        refine lv_if_ne (tgt := 43) hx hb d_X_given_38 (by decide) (fun c8 => ?_) (fun c8 => ?_)
        · replace h := h.2 c8
          exact wk_X_given_43 cx post  a2 r2 s6 _ _ _ hw (lv_sub hl [1, 4, 0] rfl) h
        · replace h := h.1 c8
          refine lv_iconst (v := 0) hx hb d_X_given_41 (by decide) ?_
          exact zz_retz cx hw d_X_given_42 (by decide) h
set_option maxRecDepth 100000 in
set_option maxHeartbeats 4000000 in
theorem wk_X_theme_52 {p : Program} {l : Launch} {e : Env} {s : State} {m : MethodId} {args : Array Value} {below : List Frame} {meth : Method} {c : Code} {A : Nat → Prop} {D : va_G} {cI cZ cL : ClassId} {a : Nat → Nat} (cx : zz_Cx p s m args meth c "GridFills" b_X_theme 3 (some .boolean) D zz_cl (zz_ty cI cZ cL) A) (post : Int32 → zz_St → Prop) : ∀ (x1 : Int32) (x2 : Int32) (u : zz_St) (H : Heap) (locs : List Loc) (ls : Array Slot), zz_Wd D zz_cl A s.heap H locs (gw_C cI cZ cL a u) → lv_has ls 3 [(0, .ref (a 0)), (1, .int x1), (2, .int x2)] → wp_X_theme_52 post x1 x2 u → W p l e (rm_X_theme) s m args below meth c H locs 0 0 (MQ below (va_Qi post (zz_B D zz_cl (zz_ty cI cZ cL) (gw_C cI cZ cL a) A) A) args s 0 0 A) (F0 m 52 ls []) := by
  intro x1 x2 u H locs ls hw hl h
  unfold wp_X_theme_52 at h
  obtain ⟨hx, hb, hr, hml, hown, hts, hlk, hK, hA⟩ := id cx
  refine lv_aload_n hx hb d_X_theme_52 rfl (lv_at hl 0 rfl) ?_
  refine zz_get (v2 := .ref (a 1)) cx hw in_X 0 rfl rfl 0 (by decide) kw_182 rfl rfl d_X_theme_53 ?_
  refine zz_get (v2 := .ref (a 10)) cx hw in_G 1 rfl rfl 9 (by decide) kw_222 rfl rfl d_X_theme_56 ?_
  refine lv_iload_n hx hb d_X_theme_59 rfl (lv_at hl 1 rfl) ?_
  refine lv_iload_n hx hb d_X_theme_60 rfl (lv_at hl 2 rfl) ?_
  obtain ⟨hi, h⟩ := h
  refine zz_iast (ws' := gw_C cI cZ cL a (ss_a u 5 (upd (sg_a u 5) x1.toNatClampNeg x2))) cx hw 10 0 rfl rfl hi rfl (gw_C_a5 _ _ _ _ _ _) d_X_theme_61 (fun H locs hw => ?_)
  refine lv_iconst (v := 1) hx hb d_X_theme_62 (by decide) ?_
  exact zz_retz cx hw d_X_theme_63 (by decide) h
set_option maxRecDepth 100000 in
set_option maxHeartbeats 4000000 in
theorem ct_X_theme (l : Launch) (D : va_G) (cI cZ cL : ClassId) (a : Nat → Nat) {a0 : Int32} {a1 : Int32} {u : zz_St} {post : Int32 → zz_St → Prop} (h : wp_X_theme  a0 a1 u post) : zz_MI l y_X_theme (.code y_X_theme b_X_theme 3 (some .boolean) :: zz_tbl) (rm_X_theme) D zz_cl (zz_ty cI cZ cL) (gw_C cI cZ cL a) [.ref (a 0), .int a0, .int a1] u post := by
  unfold wp_X_theme at h
  refine zz_ofI (by decide) (Nat.le_of_ble_eq_true rfl) ?_
  intro p e s m below meth c A cx hw ls hl
  obtain ⟨hx, hb, hr, hml, hown, hts, hlk, hK, hA⟩ := id cx
  refine lv_aload_n hx hb d_X_theme_0 rfl (lv_at hl 0 rfl) ?_
  refine zz_get (v2 := .ref (a 1)) cx hw in_X 0 rfl rfl 0 (by decide) kw_182 rfl rfl d_X_theme_1 ?_
  refine lv_iload_n hx hb d_X_theme_4 rfl (lv_at hl 1 rfl) ?_
  refine zz_callVi (As := [.int a0]) (rest := []) cx hw (ct_G_hasSlot l D cI cZ cL a h) (zz_gV kw_218 kw_220 kw_221 kw_13 kw_219) hd_G_hasSlot ⟨rfl, rfl⟩ ⟨Nat.le_of_ble_eq_true rfl, Nat.le_of_ble_eq_true rfl⟩ 1 rfl rfl rfl rfl hl.1 rfl (Nat.le_of_ble_eq_true rfl) d_X_theme_5 (fun r2 s1 H locs h hw => ?_)
  refine lv_if_ne (tgt := 13) hx hb d_X_theme_8 (by decide) (fun c3 => ?_) (fun c3 => ?_)
  · replace h := h.2 c3
    refine lv_iload_n hx hb d_X_theme_13 rfl (lv_at hl 2 rfl) ?_
    refine lv_iconst (v := (-1)) hx hb d_X_theme_14 (by decide) ?_
    refine lv_icmp_eq (tgt := 52) hx hb d_X_theme_15 (by decide) (fun c4 => ?_) (fun c4 => ?_)
    · replace h := h.1 c4
      exact wk_X_theme_52 cx post  a0 a1 s1 _ _ _ hw (lv_sub hl [0, 1, 2] rfl) h
    · replace h := h.2 c4
      refine lv_aload_n hx hb d_X_theme_18 rfl (lv_at hl 0 rfl) ?_
      refine zz_get (v2 := .ref (a 2)) cx hw in_X 0 rfl rfl 1 (by decide) kw_194 rfl rfl d_X_theme_19 ?_
      refine lv_iload_n hx hb d_X_theme_22 rfl (lv_at hl 2 rfl) ?_
      refine zz_callVi (As := [.int a1]) (rest := []) cx hw (ct_L_hasWord l D cI cZ cL a h) (zz_gV kw_214 kw_216 kw_217 kw_60 kw_215) hd_L_hasWord ⟨rfl, rfl⟩ ⟨Nat.le_of_ble_eq_true rfl, Nat.le_of_ble_eq_true rfl⟩ 2 rfl rfl rfl rfl hl.1 rfl (Nat.le_of_ble_eq_true rfl) d_X_theme_23 (fun r6 s5 H locs h hw => ?_)
      refine lv_if_eq (tgt := 50) hx hb d_X_theme_26 (by decide) (fun c7 => ?_) (fun c7 => ?_)
      · replace h := h.1 c7
        refine lv_iconst (v := 0) hx hb d_X_theme_50 (by decide) ?_
        exact zz_retz cx hw d_X_theme_51 (by decide) h
      · replace h := h.2 c7
        refine lv_aload_n hx hb d_X_theme_29 rfl (lv_at hl 0 rfl) ?_
        refine zz_get (v2 := .ref (a 2)) cx hw in_X 0 rfl rfl 1 (by decide) kw_194 rfl rfl d_X_theme_30 ?_
        refine zz_get (v2 := .ref (a 14)) cx hw in_L 2 rfl rfl 1 (by decide) kw_212 rfl rfl d_X_theme_33 ?_
        refine lv_iload_n hx hb d_X_theme_36 rfl (lv_at hl 2 rfl) ?_
        obtain ⟨hi, h⟩ := h
        refine zz_iald (f2 := sg_a s5 9) cx hw 14 0 rfl rfl hi rfl d_X_theme_37 ?_
        refine lv_aload_n hx hb d_X_theme_38 rfl (lv_at hl 0 rfl) ?_
        refine zz_get (v2 := .ref (a 1)) cx hw in_X 0 rfl rfl 0 (by decide) kw_182 rfl rfl d_X_theme_39 ?_
        refine zz_get (v2 := .ref (a 8)) cx hw in_G 1 rfl rfl 7 (by decide) kw_213 rfl rfl d_X_theme_42 ?_
        refine lv_iload_n hx hb d_X_theme_45 rfl (lv_at hl 1 rfl) ?_
        obtain ⟨hi, h⟩ := h
        refine zz_iald (f2 := sg_a s5 3) cx hw 8 0 rfl rfl hi rfl d_X_theme_46 ?_
        refine lv_icmp_eq (tgt := 52) hx hb d_X_theme_47 (by decide) (fun c8 => ?_) (fun c8 => ?_)
        · replace h := h.1 c8
          exact wk_X_theme_52 cx post  a0 a1 s5 _ _ _ hw (lv_sub hl [0, 1, 2] rfl) h
        · replace h := h.2 c8
          refine lv_iconst (v := 0) hx hb d_X_theme_50 (by decide) ?_
          exact zz_retz cx hw d_X_theme_51 (by decide) h
  · replace h := h.1 c3
    refine lv_iconst (v := 0) hx hb d_X_theme_11 (by decide) ?_
    exact zz_retz cx hw d_X_theme_12 (by decide) h
set_option maxRecDepth 100000 in
set_option maxHeartbeats 4000000 in
theorem ct_X_slots (l : Launch) (D : va_G) (cI cZ cL : ClassId) (a : Nat → Nat) {u : zz_St} {post : Int32 → zz_St → Prop} (h : wp_X_slots  u post) : zz_MI l y_X_slots (.code y_X_slots b_X_slots 1 (some .int) :: zz_tbl) (rm_X_slots) D zz_cl (zz_ty cI cZ cL) (gw_C cI cZ cL a) [.ref (a 0)] u post := by
  unfold wp_X_slots at h
  refine zz_ofI (by decide) (Nat.le_of_ble_eq_true rfl) ?_
  intro p e s m below meth c A cx hw ls hl
  obtain ⟨hx, hb, hr, hml, hown, hts, hlk, hK, hA⟩ := id cx
  refine lv_aload_n hx hb d_X_slots_0 rfl (lv_at hl 0 rfl) ?_
  refine zz_get (v2 := .ref (a 1)) cx hw in_X 0 rfl rfl 0 (by decide) kw_182 rfl rfl d_X_slots_1 ?_
  refine zz_get (v2 := .int (sg_i u 3)) cx hw in_G 1 rfl rfl 5 (by decide) kw_223 rfl rfl d_X_slots_4 ?_
  exact zz_reti cx hw d_X_slots_7 h
set_option maxRecDepth 100000 in
set_option maxHeartbeats 4000000 in
theorem ct_X_slot (l : Launch) (D : va_G) (cI cZ cL : ClassId) (a : Nat → Nat) {a0 : Int32} {a1 : Int32} {u : zz_St} {post : Int32 → zz_St → Prop} (h : wp_X_slot  a0 a1 u post) : zz_MI l y_X_slot (.code y_X_slot b_X_slot 3 (some .int) :: zz_tbl) (rm_X_slot) D zz_cl (zz_ty cI cZ cL) (gw_C cI cZ cL a) [.ref (a 0), .int a0, .int a1] u post := by
  unfold wp_X_slot at h
  refine zz_ofI (by decide) (Nat.le_of_ble_eq_true rfl) ?_
  intro p e s m below meth c A cx hw ls hl
  obtain ⟨hx, hb, hr, hml, hown, hts, hlk, hK, hA⟩ := id cx
  refine lv_aload_n hx hb d_X_slot_0 rfl (lv_at hl 0 rfl) ?_
  refine zz_get (v2 := .ref (a 1)) cx hw in_X 0 rfl rfl 0 (by decide) kw_182 rfl rfl d_X_slot_1 ?_
  refine lv_iload_n hx hb d_X_slot_4 rfl (lv_at hl 1 rfl) ?_
  refine zz_callVi (As := [.int a0]) (rest := []) cx hw (ct_G_hasSlot l D cI cZ cL a h) (zz_gV kw_218 kw_220 kw_221 kw_13 kw_219) hd_G_hasSlot ⟨rfl, rfl⟩ ⟨Nat.le_of_ble_eq_true rfl, Nat.le_of_ble_eq_true rfl⟩ 1 rfl rfl rfl rfl hl.1 rfl (Nat.le_of_ble_eq_true rfl) d_X_slot_5 (fun r2 s1 H locs h hw => ?_)
  refine lv_if_ne (tgt := 13) hx hb d_X_slot_8 (by decide) (fun c3 => ?_) (fun c3 => ?_)
  · replace h := h.2 c3
    refine lv_iload_n hx hb d_X_slot_13 rfl (lv_at hl 2 rfl) ?_
    rcases zz_sw6_0 a1 with c_sw | c_sw | c_sw | c_sw | c_sw | c_sw | c_sw
    · replace h := h.1 c_sw
      refine lv_tableIn (tgt := 52) hx hb d_X_slot_14 (by rw [c_sw]; decide) (by rw [c_sw]; decide) (by rw [c_sw]; rfl) (by decide) ?_
      refine lv_aload_n hx hb d_X_slot_52 rfl (lv_at hl 0 rfl) ?_
      refine zz_get (v2 := .ref (a 1)) cx hw in_X 0 rfl rfl 0 (by decide) kw_182 rfl rfl d_X_slot_53 ?_
      refine zz_get (v2 := .ref (a 7)) cx hw in_G 1 rfl rfl 6 (by decide) kw_224 rfl rfl d_X_slot_56 ?_
      refine lv_iload_n hx hb d_X_slot_59 rfl (lv_at hl 1 rfl) ?_
      obtain ⟨hi, h⟩ := h
      refine zz_iald (f2 := sg_a s1 2) cx hw 7 0 rfl rfl hi rfl d_X_slot_60 ?_
      exact zz_reti cx hw d_X_slot_61 h
    · replace h := h.2.1 c_sw
      refine lv_tableIn (tgt := 62) hx hb d_X_slot_14 (by rw [c_sw]; decide) (by rw [c_sw]; decide) (by rw [c_sw]; rfl) (by decide) ?_
      refine lv_aload_n hx hb d_X_slot_62 rfl (lv_at hl 0 rfl) ?_
      refine zz_get (v2 := .ref (a 1)) cx hw in_X 0 rfl rfl 0 (by decide) kw_182 rfl rfl d_X_slot_63 ?_
      refine zz_get (v2 := .ref (a 8)) cx hw in_G 1 rfl rfl 7 (by decide) kw_213 rfl rfl d_X_slot_66 ?_
      refine lv_iload_n hx hb d_X_slot_69 rfl (lv_at hl 1 rfl) ?_
      obtain ⟨hi, h⟩ := h
      refine zz_iald (f2 := sg_a s1 3) cx hw 8 0 rfl rfl hi rfl d_X_slot_70 ?_
      exact zz_reti cx hw d_X_slot_71 h
    · replace h := h.2.2.1 c_sw
      refine lv_tableIn (tgt := 72) hx hb d_X_slot_14 (by rw [c_sw]; decide) (by rw [c_sw]; decide) (by rw [c_sw]; rfl) (by decide) ?_
      refine lv_aload_n hx hb d_X_slot_72 rfl (lv_at hl 0 rfl) ?_
      refine zz_get (v2 := .ref (a 1)) cx hw in_X 0 rfl rfl 0 (by decide) kw_182 rfl rfl d_X_slot_73 ?_
      refine zz_get (v2 := .ref (a 9)) cx hw in_G 1 rfl rfl 8 (by decide) kw_225 rfl rfl d_X_slot_76 ?_
      refine lv_iload_n hx hb d_X_slot_79 rfl (lv_at hl 1 rfl) ?_
      obtain ⟨hi, h⟩ := h
      refine zz_iald (f2 := sg_a s1 4) cx hw 9 0 rfl rfl hi rfl d_X_slot_80 ?_
      exact zz_reti cx hw d_X_slot_81 h
    · replace h := h.2.2.2.1 c_sw
      refine lv_tableIn (tgt := 82) hx hb d_X_slot_14 (by rw [c_sw]; decide) (by rw [c_sw]; decide) (by rw [c_sw]; rfl) (by decide) ?_
      refine lv_aload_n hx hb d_X_slot_82 rfl (lv_at hl 0 rfl) ?_
      refine zz_get (v2 := .ref (a 1)) cx hw in_X 0 rfl rfl 0 (by decide) kw_182 rfl rfl d_X_slot_83 ?_
      refine zz_get (v2 := .ref (a 10)) cx hw in_G 1 rfl rfl 9 (by decide) kw_222 rfl rfl d_X_slot_86 ?_
      refine lv_iload_n hx hb d_X_slot_89 rfl (lv_at hl 1 rfl) ?_
      obtain ⟨hi, h⟩ := h
      refine zz_iald (f2 := sg_a s1 5) cx hw 10 0 rfl rfl hi rfl d_X_slot_90 ?_
      exact zz_reti cx hw d_X_slot_91 h
    · replace h := h.2.2.2.2.1 c_sw
      refine lv_tableIn (tgt := 92) hx hb d_X_slot_14 (by rw [c_sw]; decide) (by rw [c_sw]; decide) (by rw [c_sw]; rfl) (by decide) ?_
      refine lv_aload_n hx hb d_X_slot_92 rfl (lv_at hl 0 rfl) ?_
      refine zz_get (v2 := .ref (a 4)) cx hw in_X 0 rfl rfl 3 (by decide) kw_226 rfl rfl d_X_slot_93 ?_
      refine lv_iload_n hx hb d_X_slot_96 rfl (lv_at hl 1 rfl) ?_
      refine zz_callVi (As := [.int a0]) (rest := []) cx hw (ct_S_countAtStart l D cI cZ cL a h) (zz_gV kw_227 kw_229 kw_230 kw_150 kw_228) hd_S_countAtStart ⟨rfl, rfl⟩ ⟨Nat.le_of_ble_eq_true rfl, Nat.le_of_ble_eq_true rfl⟩ 4 rfl rfl rfl rfl hl.1 rfl (Nat.le_of_ble_eq_true rfl) d_X_slot_97 (fun r5 s4 H locs h hw => ?_)
      exact zz_reti cx hw d_X_slot_100 h
    · replace h := h.2.2.2.2.2.1 c_sw
      refine lv_tableIn (tgt := 101) hx hb d_X_slot_14 (by rw [c_sw]; decide) (by rw [c_sw]; decide) (by rw [c_sw]; rfl) (by decide) ?_
      refine lv_aload_n hx hb d_X_slot_101 rfl (lv_at hl 0 rfl) ?_
      refine zz_get (v2 := .ref (a 3)) cx hw in_X 0 rfl rfl 2 (by decide) kw_184 rfl rfl d_X_slot_102 ?_
      refine lv_iload_n hx hb d_X_slot_105 rfl (lv_at hl 1 rfl) ?_
      refine zz_callVi (As := [.int a0]) (rest := []) cx hw (ct_F_wordOf l D cI cZ cL a h) (zz_gV kw_231 kw_233 kw_234 kw_119 kw_232) hd_F_wordOf ⟨rfl, rfl⟩ ⟨Nat.le_of_ble_eq_true rfl, Nat.le_of_ble_eq_true rfl⟩ 3 rfl rfl rfl rfl hl.1 rfl (Nat.le_of_ble_eq_true rfl) d_X_slot_106 (fun r7 s6 H locs h hw => ?_)
      exact zz_reti cx hw d_X_slot_109 h
    · replace h := h.2.2.2.2.2.2 c_sw
      refine lv_tableOut (tgt := 110) hx hb d_X_slot_14 c_sw (by decide) ?_
      refine lv_iconst (v := (-1)) hx hb d_X_slot_110 (by decide) ?_
      exact zz_reti cx hw d_X_slot_111 h
  · replace h := h.1 c3
    refine lv_iconst (v := (-1)) hx hb d_X_slot_11 (by decide) ?_
    exact zz_reti cx hw d_X_slot_12 h
set_option maxRecDepth 100000 in
set_option maxHeartbeats 4000000 in
theorem ct_X_steps (l : Launch) (D : va_G) (cI cZ cL : ClassId) (a : Nat → Nat) {u : zz_St} {post : Int32 → zz_St → Prop} (h : wp_X_steps  u post) : zz_MI l y_X_steps (.code y_X_steps b_X_steps 1 (some .int) :: zz_tbl) (rm_X_steps) D zz_cl (zz_ty cI cZ cL) (gw_C cI cZ cL a) [.ref (a 0)] u post := by
  unfold wp_X_steps at h
  refine zz_ofI (by decide) (Nat.le_of_ble_eq_true rfl) ?_
  intro p e s m below meth c A cx hw ls hl
  obtain ⟨hx, hb, hr, hml, hown, hts, hlk, hK, hA⟩ := id cx
  refine lv_aload_n hx hb d_X_steps_0 rfl (lv_at hl 0 rfl) ?_
  refine zz_get (v2 := .ref (a 4)) cx hw in_X 0 rfl rfl 3 (by decide) kw_226 rfl rfl d_X_steps_1 ?_
  refine zz_get (v2 := .int (sg_i u 11)) cx hw in_S 4 rfl rfl 12 (by decide) kw_235 rfl rfl d_X_steps_4 ?_
  exact zz_reti cx hw d_X_steps_7 h
set_option maxRecDepth 100000 in
set_option maxHeartbeats 4000000 in
theorem ct_X_many (l : Launch) (D : va_G) (cI cZ cL : ClassId) (a : Nat → Nat) {u : zz_St} {post : Int32 → zz_St → Prop} (h : wp_X_many  u post) : zz_MI l y_X_many (.code y_X_many b_X_many 1 (some .int) :: zz_tbl) (rm_X_many) D zz_cl (zz_ty cI cZ cL) (gw_C cI cZ cL a) [.ref (a 0)] u post := by
  unfold wp_X_many at h
  refine zz_ofI (by decide) (Nat.le_of_ble_eq_true rfl) ?_
  intro p e s m below meth c A cx hw ls hl
  obtain ⟨hx, hb, hr, hml, hown, hts, hlk, hK, hA⟩ := id cx
  refine lv_aload_n hx hb d_X_many_0 rfl (lv_at hl 0 rfl) ?_
  refine zz_get (v2 := .ref (a 4)) cx hw in_X 0 rfl rfl 3 (by decide) kw_226 rfl rfl d_X_many_1 ?_
  refine zz_get (v2 := .int (sg_i u 12)) cx hw in_S 4 rfl rfl 13 (by decide) kw_236 rfl rfl d_X_many_4 ?_
  exact zz_reti cx hw d_X_many_7 h
set_option maxRecDepth 100000 in
set_option maxHeartbeats 4000000 in
theorem ct_X_score (l : Launch) (D : va_G) (cI cZ cL : ClassId) (a : Nat → Nat) {u : zz_St} {post : Int32 → zz_St → Prop} (h : wp_X_score  u post) : zz_MI l y_X_score (.code y_X_score b_X_score 1 (some .int) :: zz_tbl) (rm_X_score) D zz_cl (zz_ty cI cZ cL) (gw_C cI cZ cL a) [.ref (a 0)] u post := by
  unfold wp_X_score at h
  refine zz_ofI (by decide) (Nat.le_of_ble_eq_true rfl) ?_
  intro p e s m below meth c A cx hw ls hl
  obtain ⟨hx, hb, hr, hml, hown, hts, hlk, hK, hA⟩ := id cx
  refine lv_aload_n hx hb d_X_score_0 rfl (lv_at hl 0 rfl) ?_
  refine zz_get (v2 := .ref (a 3)) cx hw in_X 0 rfl rfl 2 (by decide) kw_184 rfl rfl d_X_score_1 ?_
  refine zz_get (v2 := .int (sg_i u 6)) cx hw in_F 3 rfl rfl 3 (by decide) kw_237 rfl rfl d_X_score_4 ?_
  exact zz_reti cx hw d_X_score_7 h
set_option maxRecDepth 100000 in
set_option maxHeartbeats 4000000 in
theorem ct_X_letter (l : Launch) (D : va_G) (cI cZ cL : ClassId) (a : Nat → Nat) {a0 : Int32} {a1 : Int32} {u : zz_St} {post : Int32 → zz_St → Prop} (h : wp_X_letter  a0 a1 u post) : zz_MI l y_X_letter (.code y_X_letter b_X_letter 4 (some .int) :: zz_tbl) (rm_X_letter) D zz_cl (zz_ty cI cZ cL) (gw_C cI cZ cL a) [.ref (a 0), .int a0, .int a1] u post := by
  unfold wp_X_letter at h
  refine zz_ofI (by decide) (Nat.le_of_ble_eq_true rfl) ?_
  intro p e s m below meth c A cx hw ls hl
  obtain ⟨hx, hb, hr, hml, hown, hts, hlk, hK, hA⟩ := id cx
  refine lv_aload_n hx hb d_X_letter_0 rfl (lv_at hl 0 rfl) ?_
  refine zz_get (v2 := .ref (a 1)) cx hw in_X 0 rfl rfl 0 (by decide) kw_182 rfl rfl d_X_letter_1 ?_
  refine lv_iload_n hx hb d_X_letter_4 rfl (lv_at hl 1 rfl) ?_
  refine lv_iload_n hx hb d_X_letter_5 rfl (lv_at hl 2 rfl) ?_
  refine zz_callVi (As := [.int a0, .int a1]) (rest := []) cx hw (ct_G_cellAt l D cI cZ cL a h) (zz_gV kw_193 kw_14 kw_15 kw_13 kw_12) hd_G_cellAt ⟨rfl, rfl⟩ ⟨Nat.le_of_ble_eq_true rfl, Nat.le_of_ble_eq_true rfl⟩ 1 rfl rfl rfl rfl hl.1 rfl (Nat.le_of_ble_eq_true rfl) d_X_letter_6 (fun r2 s1 H locs h hw => ?_)
  refine lv_istore_n (lv' := [(3, .int r2), (0, .ref (a 0)), (1, .int a0), (2, .int a1)]) hx hb d_X_letter_9 rfl hl (by decide) rfl (fun ls hl => ?_)
  refine lv_iload_n hx hb d_X_letter_10 rfl (lv_at hl 0 rfl) ?_
  refine lv_iconst (v := (-1)) hx hb d_X_letter_11 (by decide) ?_
  refine lv_icmp_ne (tgt := 19) hx hb d_X_letter_12 (by decide) (fun c3 => ?_) (fun c3 => ?_)
  · replace h := h.2 c3
    refine lv_aload_n hx hb d_X_letter_19 rfl (lv_at hl 1 rfl) ?_
    refine zz_get (v2 := .ref (a 3)) cx hw in_X 0 rfl rfl 2 (by decide) kw_184 rfl rfl d_X_letter_20 ?_
    refine lv_iload_n hx hb d_X_letter_23 rfl (lv_at hl 0 rfl) ?_
    refine zz_callVi (As := [.int r2]) (rest := []) cx hw (ct_F_letterAt l D cI cZ cL a h) (zz_gV kw_238 kw_240 kw_241 kw_119 kw_239) hd_F_letterAt ⟨rfl, rfl⟩ ⟨Nat.le_of_ble_eq_true rfl, Nat.le_of_ble_eq_true rfl⟩ 3 rfl rfl rfl rfl hl.1 rfl (Nat.le_of_ble_eq_true rfl) d_X_letter_24 (fun r5 s4 H locs h hw => ?_)
    exact zz_reti cx hw d_X_letter_27 h
  · replace h := h.1 c3
    refine lv_iconst (v := (-1)) hx hb d_X_letter_15 (by decide) ?_
    refine lv_goto (tgt := 27) hx hb d_X_letter_16 (by decide) ?_
    exact zz_reti cx hw d_X_letter_27 h
set_option maxRecDepth 100000 in
set_option maxHeartbeats 4000000 in
theorem ct_X_check (l : Launch) (D : va_G) (cI cZ cL : ClassId) (a : Nat → Nat) {u : zz_St} {post : Int32 → zz_St → Prop} (h : wp_X_check  u post) : zz_MI l y_X_check (.code y_X_check b_X_check 1 (some .int) :: zz_tbl) (rm_X_check) D zz_cl (zz_ty cI cZ cL) (gw_C cI cZ cL a) [.ref (a 0)] u post := by
  unfold wp_X_check at h
  refine zz_ofI (by decide) (Nat.le_of_ble_eq_true rfl) ?_
  intro p e s m below meth c A cx hw ls hl
  obtain ⟨hx, hb, hr, hml, hown, hts, hlk, hK, hA⟩ := id cx
  refine lv_aload_n hx hb d_X_check_0 rfl (lv_at hl 0 rfl) ?_
  refine zz_get (v2 := .ref (a 3)) cx hw in_X 0 rfl rfl 2 (by decide) kw_184 rfl rfl d_X_check_1 ?_
  refine zz_callVi (As := []) (rest := []) cx hw (ct_F_firstFault l D cI cZ cL a h) (zz_gV kw_242 kw_244 kw_245 kw_119 kw_243) hd_F_firstFault ⟨rfl, rfl⟩ ⟨Nat.le_of_ble_eq_true rfl, Nat.le_of_ble_eq_true rfl⟩ 3 rfl rfl rfl rfl hl.1 rfl (Nat.le_of_ble_eq_true rfl) d_X_check_4 (fun r2 s1 H locs h hw => ?_)
  exact zz_reti cx hw d_X_check_7 h
set_option maxRecDepth 100000 in
set_option maxHeartbeats 4000000 in
theorem wk_X_alike_33 {p : Program} {l : Launch} {e : Env} {s : State} {m : MethodId} {args : Array Value} {below : List Frame} {meth : Method} {c : Code} {A : Nat → Prop} {D : va_G} {cI cZ cL : ClassId} {a : Nat → Nat} (cx : zz_Cx p s m args meth c "GridFills" b_X_alike 2 (some .boolean) D zz_cl (zz_ty cI cZ cL) A) (post : Int32 → zz_St → Prop) : ∀ (x1 : Int32) (u : zz_St) (H : Heap) (locs : List Loc) (ls : Array Slot), zz_Wd D zz_cl A s.heap H locs (gw_C cI cZ cL a u) → lv_has ls 2 [(0, .ref (a 0)), (1, .int x1)] → wp_X_alike_33 post x1 u → W p l e (rm_X_alike) s m args below meth c H locs 0 0 (MQ below (va_Qi post (zz_B D zz_cl (zz_ty cI cZ cL) (gw_C cI cZ cL a) A) A) args s 0 0 A) (F0 m 33 ls []) := by
  intro x1 u H locs ls hw hl h
  unfold wp_X_alike_33 at h
  obtain ⟨hx, hb, hr, hml, hown, hts, hlk, hK, hA⟩ := id cx
  refine lv_aload_n hx hb d_X_alike_33 rfl (lv_at hl 0 rfl) ?_
  refine zz_get (v2 := .ref (a 1)) cx hw in_X 0 rfl rfl 0 (by decide) kw_182 rfl rfl d_X_alike_34 ?_
  refine lv_iload_n hx hb d_X_alike_37 rfl (lv_at hl 1 rfl) ?_
  refine zz_callVi (As := [.int x1]) (rest := []) cx hw (ct_G_looksTheSame l D cI cZ cL a h) (zz_gV kw_248 kw_250 kw_251 kw_13 kw_249) hd_G_looksTheSame ⟨rfl, rfl⟩ ⟨Nat.le_of_ble_eq_true rfl, Nat.le_of_ble_eq_true rfl⟩ 1 rfl rfl rfl rfl hl.1 rfl (Nat.le_of_ble_eq_true rfl) d_X_alike_38 (fun r6 s5 H locs h hw => ?_)
  exact zz_retz cx hw d_X_alike_41 h.1 h.2
set_option maxRecDepth 100000 in
set_option maxHeartbeats 4000000 in
theorem ct_X_alike (l : Launch) (D : va_G) (cI cZ cL : ClassId) (a : Nat → Nat) {a0 : Int32} {u : zz_St} {post : Int32 → zz_St → Prop} (h : wp_X_alike  a0 u post) : zz_MI l y_X_alike (.code y_X_alike b_X_alike 2 (some .boolean) :: zz_tbl) (rm_X_alike) D zz_cl (zz_ty cI cZ cL) (gw_C cI cZ cL a) [.ref (a 0), .int a0] u post := by
  unfold wp_X_alike at h
  refine zz_ofI (by decide) (Nat.le_of_ble_eq_true rfl) ?_
  intro p e s m below meth c A cx hw ls hl
  obtain ⟨hx, hb, hr, hml, hown, hts, hlk, hK, hA⟩ := id cx
  refine lv_iload_n hx hb d_X_alike_0 rfl (lv_at hl 1 rfl) ?_
  refine lv_if_lt (tgt := 31) hx hb d_X_alike_1 (by decide) (fun c1 => ?_) (fun c1 => ?_)
  · replace h := h.1 c1
    refine lv_iconst (v := 0) hx hb d_X_alike_31 (by decide) ?_
    exact zz_retz cx hw d_X_alike_32 (by decide) h
  · replace h := h.2 c1
    refine lv_iload_n hx hb d_X_alike_4 rfl (lv_at hl 1 rfl) ?_
    refine lv_iconst (v := 3) hx hb d_X_alike_5 (by decide) ?_
    refine lv_icmp_gt (tgt := 31) hx hb d_X_alike_6 (by decide) (fun c2 => ?_) (fun c2 => ?_)
    · replace h := h.1 c2
      refine lv_iconst (v := 0) hx hb d_X_alike_31 (by decide) ?_
      exact zz_retz cx hw d_X_alike_32 (by decide) h
    · replace h := h.2 c2
      refine lv_iload_n hx hb d_X_alike_9 rfl (lv_at hl 1 rfl) ?_
      refine lv_iconst (v := 3) hx hb d_X_alike_10 (by decide) ?_
      refine lv_icmp_ne (tgt := 33) hx hb d_X_alike_11 (by decide) (fun c3 => ?_) (fun c3 => ?_)
      · replace h := h.2 c3
        exact wk_X_alike_33 cx post  a0 u _ _ _ hw (lv_sub hl [0, 1] rfl) h
      · replace h := h.1 c3
        refine lv_aload_n hx hb d_X_alike_14 rfl (lv_at hl 0 rfl) ?_
        refine zz_get (v2 := .ref (a 1)) cx hw in_X 0 rfl rfl 0 (by decide) kw_182 rfl rfl d_X_alike_15 ?_
        refine zz_get (v2 := .int (sg_i u 0)) cx hw in_G 1 rfl rfl 0 (by decide) kw_246 rfl rfl d_X_alike_18 ?_
        refine lv_aload_n hx hb d_X_alike_21 rfl (lv_at hl 0 rfl) ?_
        refine zz_get (v2 := .ref (a 1)) cx hw in_X 0 rfl rfl 0 (by decide) kw_182 rfl rfl d_X_alike_22 ?_
        refine zz_get (v2 := .int (sg_i u 1)) cx hw in_G 1 rfl rfl 1 (by decide) kw_247 rfl rfl d_X_alike_25 ?_
        refine lv_icmp_eq (tgt := 33) hx hb d_X_alike_28 (by decide) (fun c4 => ?_) (fun c4 => ?_)
        · replace h := h.1 c4
          exact wk_X_alike_33 cx post  a0 u _ _ _ hw (lv_sub hl [0, 1] rfl) h
        · replace h := h.2 c4
          refine lv_iconst (v := 0) hx hb d_X_alike_31 (by decide) ?_
          exact zz_retz cx hw d_X_alike_32 (by decide) h
set_option maxRecDepth 100000 in
set_option maxHeartbeats 4000000 in
theorem ct_X_parts (l : Launch) (D : va_G) (cI cZ cL : ClassId) (a : Nat → Nat) {u : zz_St} {post : Int32 → zz_St → Prop} (h : wp_X_parts  u post) : zz_MI l y_X_parts (.code y_X_parts b_X_parts 1 (some .int) :: zz_tbl) (rm_X_parts) D zz_cl (zz_ty cI cZ cL) (gw_C cI cZ cL a) [.ref (a 0)] u post := by
  unfold wp_X_parts at h
  refine zz_ofI (by decide) (Nat.le_of_ble_eq_true rfl) ?_
  intro p e s m below meth c A cx hw ls hl
  obtain ⟨hx, hb, hr, hml, hown, hts, hlk, hK, hA⟩ := id cx
  refine lv_aload_n hx hb d_X_parts_0 rfl (lv_at hl 0 rfl) ?_
  refine zz_get (v2 := .ref (a 1)) cx hw in_X 0 rfl rfl 0 (by decide) kw_182 rfl rfl d_X_parts_1 ?_
  refine zz_callVi (As := []) (rest := []) cx hw (ct_G_countParts l D cI cZ cL a h) (zz_gV kw_252 kw_254 kw_255 kw_13 kw_253) hd_G_countParts ⟨rfl, rfl⟩ ⟨Nat.le_of_ble_eq_true rfl, Nat.le_of_ble_eq_true rfl⟩ 1 rfl rfl rfl rfl hl.1 rfl (Nat.le_of_ble_eq_true rfl) d_X_parts_4 (fun r2 s1 H locs h hw => ?_)
  exact zz_reti cx hw d_X_parts_7 h
set_option maxRecDepth 100000 in
set_option maxHeartbeats 4000000 in
theorem ct_X_isStepLimit (l : Launch) (D : va_G) (cI cZ cL : ClassId) (a : Nat → Nat) {a0 : Int32} {u : zz_St} {post : Int32 → zz_St → Prop} (h : wp_X_isStepLimit  a0 u post) : zz_MI l y_X_isStepLimit (.code y_X_isStepLimit b_X_isStepLimit 1 (some .boolean) :: zz_tbl) (rm_X_isStepLimit) D zz_cl (zz_ty cI cZ cL) (gw_C cI cZ cL a) [.int a0] u post := by
  unfold wp_X_isStepLimit at h
  refine zz_ofI (by decide) (Nat.le_of_ble_eq_true rfl) ?_
  intro p e s m below meth c A cx hw ls hl
  obtain ⟨hx, hb, hr, hml, hown, hts, hlk, hK, hA⟩ := id cx
  refine lv_iload_n hx hb d_X_isStepLimit_0 rfl (lv_at hl 0 rfl) ?_
  refine lv_if_lt (tgt := 15) hx hb d_X_isStepLimit_1 (by decide) (fun c1 => ?_) (fun c1 => ?_)
  · replace h := h.1 c1
    refine lv_iconst (v := 0) hx hb d_X_isStepLimit_15 (by decide) ?_
    exact zz_retz cx hw d_X_isStepLimit_16 (by decide) h
  · replace h := h.2 c1
    refine lv_iload_n hx hb d_X_isStepLimit_4 rfl (lv_at hl 0 rfl) ?_
    refine lv_sipush (v := 20000) hx hb d_X_isStepLimit_5 (by decide) ?_
    refine lv_icmp_gt (tgt := 15) hx hb d_X_isStepLimit_8 (by decide) (fun c2 => ?_) (fun c2 => ?_)
    · replace h := h.1 c2
      refine lv_iconst (v := 0) hx hb d_X_isStepLimit_15 (by decide) ?_
      exact zz_retz cx hw d_X_isStepLimit_16 (by decide) h
    · replace h := h.2 c2
      refine lv_iconst (v := 1) hx hb d_X_isStepLimit_11 (by decide) ?_
      refine lv_goto (tgt := 16) hx hb d_X_isStepLimit_12 (by decide) ?_
      exact zz_retz cx hw d_X_isStepLimit_16 (by decide) h
set_option maxRecDepth 100000 in
set_option maxHeartbeats 4000000 in
theorem ct_X_run (l : Launch) (D : va_G) (cI cZ cL : ClassId) (a : Nat → Nat) {a0 : Int32} {u : zz_St} {post : Int32 → zz_St → Prop} (h : wp_X_run  a0 u post) : zz_MI l y_X_run (.code y_X_run b_X_run 2 (some .int) :: zz_tbl) (rm_X_run) D zz_cl (zz_ty cI cZ cL) (gw_C cI cZ cL a) [.ref (a 0), .int a0] u post := by
  unfold wp_X_run at h
  refine zz_ofI (by decide) (Nat.le_of_ble_eq_true rfl) ?_
  intro p e s m below meth c A cx hw ls hl
  obtain ⟨hx, hb, hr, hml, hown, hts, hlk, hK, hA⟩ := id cx
  refine lv_iload_n hx hb d_X_run_0 rfl (lv_at hl 1 rfl) ?_
  refine zz_callSi (As := [.int a0]) (rest := []) cx hw (ct_X_isStepLimit l D cI cZ cL a h) (zz_gS kw_293 kw_295 kw_201 kw_294) hd_X_isStepLimit ⟨rfl, rfl⟩ ⟨Nat.le_of_ble_eq_true rfl, Nat.le_of_ble_eq_true rfl⟩ rfl hl.1 rfl (Nat.le_of_ble_eq_true rfl) d_X_run_1 (fun r2 s1 H locs h hw => ?_)
  refine lv_if_eq (tgt := 19) hx hb d_X_run_4 (by decide) (fun c3 => ?_) (fun c3 => ?_)
  · replace h := h.1 c3
    refine lv_iconst (v := (-1)) hx hb d_X_run_19 (by decide) ?_
    exact zz_reti cx hw d_X_run_20 h
  · replace h := h.2 c3
    refine lv_aload_n hx hb d_X_run_7 rfl (lv_at hl 0 rfl) ?_
    refine zz_get (v2 := .ref (a 4)) cx hw in_X 0 rfl rfl 3 (by decide) kw_226 rfl rfl d_X_run_8 ?_
    refine lv_iload_n hx hb d_X_run_11 rfl (lv_at hl 1 rfl) ?_
    refine lv_iconst (v := 0) hx hb d_X_run_12 (by decide) ?_
    refine zz_callVi (As := [.int a0, .int 0]) (rest := []) cx hw (ct_S_seek l D cI cZ cL a h) (zz_gV kw_289 kw_291 kw_292 kw_150 kw_290) hd_S_seek ⟨rfl, rfl⟩ ⟨Nat.le_of_ble_eq_true rfl, Nat.le_of_ble_eq_true rfl⟩ 4 rfl rfl rfl rfl hl.1 rfl (Nat.le_of_ble_eq_true rfl) d_X_run_13 (fun r5 s4 H locs h hw => ?_)
    refine lv_goto (tgt := 20) hx hb d_X_run_16 (by decide) ?_
    exact zz_reti cx hw d_X_run_20 h
set_option maxRecDepth 100000 in
set_option maxHeartbeats 4000000 in
theorem ct_X_best (l : Launch) (D : va_G) (cI cZ cL : ClassId) (a : Nat → Nat) {a0 : Int32} {u : zz_St} {post : Int32 → zz_St → Prop} (h : wp_X_best  a0 u post) : zz_MI l y_X_best (.code y_X_best b_X_best 2 (some .int) :: zz_tbl) (rm_X_best) D zz_cl (zz_ty cI cZ cL) (gw_C cI cZ cL a) [.ref (a 0), .int a0] u post := by
  unfold wp_X_best at h
  refine zz_ofI (by decide) (Nat.le_of_ble_eq_true rfl) ?_
  intro p e s m below meth c A cx hw ls hl
  obtain ⟨hx, hb, hr, hml, hown, hts, hlk, hK, hA⟩ := id cx
  refine lv_iload_n hx hb d_X_best_0 rfl (lv_at hl 1 rfl) ?_
  refine zz_callSi (As := [.int a0]) (rest := []) cx hw (ct_X_isStepLimit l D cI cZ cL a h) (zz_gS kw_293 kw_295 kw_201 kw_294) hd_X_isStepLimit ⟨rfl, rfl⟩ ⟨Nat.le_of_ble_eq_true rfl, Nat.le_of_ble_eq_true rfl⟩ rfl hl.1 rfl (Nat.le_of_ble_eq_true rfl) d_X_best_1 (fun r2 s1 H locs h hw => ?_)
  refine lv_if_eq (tgt := 19) hx hb d_X_best_4 (by decide) (fun c3 => ?_) (fun c3 => ?_)
  · replace h := h.1 c3
    refine lv_iconst (v := (-1)) hx hb d_X_best_19 (by decide) ?_
    exact zz_reti cx hw d_X_best_20 h
  · replace h := h.2 c3
    refine lv_aload_n hx hb d_X_best_7 rfl (lv_at hl 0 rfl) ?_
    refine zz_get (v2 := .ref (a 4)) cx hw in_X 0 rfl rfl 3 (by decide) kw_226 rfl rfl d_X_best_8 ?_
    refine lv_iload_n hx hb d_X_best_11 rfl (lv_at hl 1 rfl) ?_
    refine lv_iconst (v := 1) hx hb d_X_best_12 (by decide) ?_
    refine zz_callVi (As := [.int a0, .int 1]) (rest := []) cx hw (ct_S_seek l D cI cZ cL a h) (zz_gV kw_289 kw_291 kw_292 kw_150 kw_290) hd_S_seek ⟨rfl, rfl⟩ ⟨Nat.le_of_ble_eq_true rfl, Nat.le_of_ble_eq_true rfl⟩ 4 rfl rfl rfl rfl hl.1 rfl (Nat.le_of_ble_eq_true rfl) d_X_best_13 (fun r5 s4 H locs h hw => ?_)
    refine lv_goto (tgt := 20) hx hb d_X_best_16 (by decide) ?_
    exact zz_reti cx hw d_X_best_20 h
