abbrev rm_G_init : Room := { frames := 4, cells := 9, slots := 348, locals := 94 }
abbrev rm_L_init : Room := { frames := 1, cells := 10, slots := 1132, locals := 40 }
abbrev rm_F_init : Room := { frames := 1, cells := 1, slots := 24, locals := 40 }
abbrev rm_S_init : Room := { frames := 1, cells := 3, slots := 1224, locals := 40 }
abbrev rm_M_init : Room := { frames := 3, cells := 18, slots := 4077, locals := 70 }
abbrev rm_X_init : Room := { frames := 5, cells := 27, slots := 2771, locals := 116 }
abbrev rm_X_heldToSide : Room := { frames := 1, cells := 0, slots := 0, locals := 40 }
def zz_held (x : Int32) : Int32 := if (1 : Int32) < (if x < 6 then x else 6) then (if x < 6 then x else 6) else 1
def zz_mg (u : zz_St) : zz_St := (fun k => if k < 4 then u.1 k else if k = 6 then -1 else 0, fun _ => 0, fun k => if k < 9 then u.2.2.1 k else fun _ => 0, fun _ _ => 0)
set_option maxRecDepth 100000 in
set_option maxHeartbeats 4000000 in
theorem ct_X_heldToSide (l : Launch) (D : va_G) (cI cZ cL : ClassId) (wf : zz_St → va_W) (u : zz_St) (x : Int32) : zz_MI l y_X_heldToSide (.code y_X_heldToSide b_X_heldToSide 1 (some .int) :: zz_tbl) rm_X_heldToSide D zz_cl (zz_ty cI cZ cL) wf [.int x] u (fun r u1 => r = zz_held x ∧ u1 = u) := by
  refine zz_ofI (by decide) (Nat.le_of_ble_eq_true rfl) ?_
  intro p e s m below meth c A cx hw ls hl
  obtain ⟨hx, hb, hr, hml, hown, hts, hlk, hK, hA⟩ := id cx
  refine lv_iconst (v := 1) hx hb d_X_heldToSide_0 (by decide) ?_
  refine lv_bipush (v := 6) hx hb d_X_heldToSide_1 (by decide) ?_
  refine lv_iload_n hx hb d_X_heldToSide_3 rfl (lv_at hl 0 rfl) ?_
  refine va_mmin hx hb (hml.trans hl.1.symm) hown (hts _ kw_525) (hts _ kw_526) (hts _ kw_524) (hts _ kw_527) (Nat.le_of_ble_eq_true rfl) (Nat.le_of_ble_eq_true rfl) (Nat.zero_le _) (Nat.zero_le _) d_X_heldToSide_4 ?_
  refine va_mmax hx hb (hml.trans hl.1.symm) hown (hts _ kw_528) (hts _ kw_529) (hts _ kw_524) (hts _ kw_530) (Nat.le_of_ble_eq_true rfl) (Nat.le_of_ble_eq_true rfl) (Nat.zero_le _) (Nat.zero_le _) d_X_heldToSide_7 ?_
  exact zz_reti cx hw d_X_heldToSide_10 ⟨rfl, rfl⟩
def gn_L (cI cZ cL : ClassId) (a : Nat → Nat) : va_W := [(a 0, .inr (2, [.int 0, .ref (a 1), .ref (a 2), .ref (a 3), .ref (a 4), .ref (a 5), .ref (a 6), .ref (a 7), .ref (a 8), .ref (a 9), .ref (a 10), .int 0])), (a 1, .inl (cI, 80, .inl (fun _ => 0))), (a 2, .inl (cI, 80, .inl (fun _ => 0))), (a 3, .inl (cI, 80, .inl (fun _ => 0))), (a 4, .inl (cI, 80, .inl (fun _ => 0))), (a 5, .inl (cL, 7, .inr (.inl (fun _ => 0)))), (a 6, .inl (cL, 7, .inr (.inl (fun _ => 0)))), (a 7, .inl (cL, 156, .inr (.inl (fun _ => 0)))), (a 8, .inl (cL, 156, .inr (.inl (fun _ => 0)))), (a 9, .inl (cI, 480, .inl (fun _ => 0))), (a 10, .inl (cI, 6, .inl (fun _ => 0)))]
set_option maxRecDepth 100000 in
set_option maxHeartbeats 4000000 in
theorem ct_L_init (l : Launch) (D : va_G) (cI cZ cL : ClassId) (h0 : Nat) : zz_MN l y_L_init (.code y_L_init b_L_init 1 none :: zz_tbl) rm_L_init D zz_cl (zz_ty cI cZ cL) [.ref h0] [(h0, .inr (2, [.int 0, .null, .null, .null, .null, .null, .null, .null, .null, .null, .null, .int 0]))] (fun _ => True) (gn_L cI cZ cL) 10 1132 (fun a : Nat → Nat => a 0 = h0) := by
  refine zz_ofN (by decide) rfl (Nat.le_of_ble_eq_true rfl) ?_
  intro p e s m below meth c A cx hex hin2 hw ls hl
  obtain ⟨hx, hb, hr, hml, hown, hts, hlk, hK, hA⟩ := id cx
  refine lv_aload_n hx hb d_L_init_0 rfl (lv_at hl 0 rfl) ?_
  refine zz_oinit cx hl.1 kw_531 kw_532 kw_533 d_L_init_1 (Nat.le_of_ble_eq_true rfl) (Nat.le_of_ble_eq_true rfl) ?_
  refine lv_aload_n hx hb d_L_init_4 rfl (lv_at hl 0 rfl) ?_
  refine lv_bipush (v := 80) hx hb d_L_init_5 (by decide) ?_
  refine zz_newa (atype := .int) (ty := .int) (N' := 80) (a0 := (80, .inl (fun _ => 0))) cx hw rfl (fun _ _ => Iff.rfl) kw_534 0 rfl (zz_nai 80) (by decide) (by decide) (by decide) (Nat.le_of_ble_eq_true rfl) (Nat.le_of_ble_eq_true rfl) d_L_init_7 (k2 := 1) (n2 := 80) rfl rfl (fun q1 H hw => ?_)
  replace hw : zz_Wd D zz_cl A s.heap H _ [(h0, .inr (2, [.int 0, .null, .null, .null, .null, .null, .null, .null, .null, .null, .null, .int 0])), (q1, .inl (cI, 80, .inl (fun _ => 0)))] := hw
  refine zz_putF (v := .ref q1) (ws' := [(h0, .inr (2, [.int 0, .ref q1, .null, .null, .null, .null, .null, .null, .null, .null, .null, .int 0])), (q1, .inl (cI, 80, .inl (fun _ => 0)))]) cx hin2 hw in_L ty_L tk_L nm_L 0 rfl rfl 1 (by decide) kw_57 rfl rfl ⟨rfl, rfl⟩ (Nat.le_of_ble_eq_true rfl) rfl d_L_init_9 (fun H locs hw => ?_)
  refine lv_aload_n hx hb d_L_init_12 rfl (lv_at hl 0 rfl) ?_
  refine lv_bipush (v := 80) hx hb d_L_init_13 (by decide) ?_
  refine zz_newa (atype := .int) (ty := .int) (N' := 80) (a0 := (80, .inl (fun _ => 0))) cx hw rfl (fun _ _ => Iff.rfl) kw_534 0 rfl (zz_nai 80) (by decide) (by decide) (by decide) (Nat.le_of_ble_eq_true rfl) (Nat.le_of_ble_eq_true rfl) d_L_init_15 (k2 := 2) (n2 := 160) rfl rfl (fun q2 H hw => ?_)
  replace hw : zz_Wd D zz_cl A s.heap H _ [(h0, .inr (2, [.int 0, .ref q1, .null, .null, .null, .null, .null, .null, .null, .null, .null, .int 0])), (q1, .inl (cI, 80, .inl (fun _ => 0))), (q2, .inl (cI, 80, .inl (fun _ => 0)))] := hw
  refine zz_putF (v := .ref q2) (ws' := [(h0, .inr (2, [.int 0, .ref q1, .ref q2, .null, .null, .null, .null, .null, .null, .null, .null, .int 0])), (q1, .inl (cI, 80, .inl (fun _ => 0))), (q2, .inl (cI, 80, .inl (fun _ => 0)))]) cx hin2 hw in_L ty_L tk_L nm_L 0 rfl rfl 2 (by decide) kw_67 rfl rfl ⟨rfl, rfl⟩ (Nat.le_of_ble_eq_true rfl) rfl d_L_init_17 (fun H locs hw => ?_)
  refine lv_aload_n hx hb d_L_init_20 rfl (lv_at hl 0 rfl) ?_
  refine lv_bipush (v := 80) hx hb d_L_init_21 (by decide) ?_
  refine zz_newa (atype := .int) (ty := .int) (N' := 80) (a0 := (80, .inl (fun _ => 0))) cx hw rfl (fun _ _ => Iff.rfl) kw_534 0 rfl (zz_nai 80) (by decide) (by decide) (by decide) (Nat.le_of_ble_eq_true rfl) (Nat.le_of_ble_eq_true rfl) d_L_init_23 (k2 := 3) (n2 := 240) rfl rfl (fun q3 H hw => ?_)
  replace hw : zz_Wd D zz_cl A s.heap H _ [(h0, .inr (2, [.int 0, .ref q1, .ref q2, .null, .null, .null, .null, .null, .null, .null, .null, .int 0])), (q1, .inl (cI, 80, .inl (fun _ => 0))), (q2, .inl (cI, 80, .inl (fun _ => 0))), (q3, .inl (cI, 80, .inl (fun _ => 0)))] := hw
  refine zz_putF (v := .ref q3) (ws' := [(h0, .inr (2, [.int 0, .ref q1, .ref q2, .ref q3, .null, .null, .null, .null, .null, .null, .null, .int 0])), (q1, .inl (cI, 80, .inl (fun _ => 0))), (q2, .inl (cI, 80, .inl (fun _ => 0))), (q3, .inl (cI, 80, .inl (fun _ => 0)))]) cx hin2 hw in_L ty_L tk_L nm_L 0 rfl rfl 3 (by decide) kw_68 rfl rfl ⟨rfl, rfl⟩ (Nat.le_of_ble_eq_true rfl) rfl d_L_init_25 (fun H locs hw => ?_)
  refine lv_aload_n hx hb d_L_init_28 rfl (lv_at hl 0 rfl) ?_
  refine lv_bipush (v := 80) hx hb d_L_init_29 (by decide) ?_
  refine zz_newa (atype := .int) (ty := .int) (N' := 80) (a0 := (80, .inl (fun _ => 0))) cx hw rfl (fun _ _ => Iff.rfl) kw_534 0 rfl (zz_nai 80) (by decide) (by decide) (by decide) (Nat.le_of_ble_eq_true rfl) (Nat.le_of_ble_eq_true rfl) d_L_init_31 (k2 := 4) (n2 := 320) rfl rfl (fun q4 H hw => ?_)
  replace hw : zz_Wd D zz_cl A s.heap H _ [(h0, .inr (2, [.int 0, .ref q1, .ref q2, .ref q3, .null, .null, .null, .null, .null, .null, .null, .int 0])), (q1, .inl (cI, 80, .inl (fun _ => 0))), (q2, .inl (cI, 80, .inl (fun _ => 0))), (q3, .inl (cI, 80, .inl (fun _ => 0))), (q4, .inl (cI, 80, .inl (fun _ => 0)))] := hw
  refine zz_putF (v := .ref q4) (ws' := [(h0, .inr (2, [.int 0, .ref q1, .ref q2, .ref q3, .ref q4, .null, .null, .null, .null, .null, .null, .int 0])), (q1, .inl (cI, 80, .inl (fun _ => 0))), (q2, .inl (cI, 80, .inl (fun _ => 0))), (q3, .inl (cI, 80, .inl (fun _ => 0))), (q4, .inl (cI, 80, .inl (fun _ => 0)))]) cx hin2 hw in_L ty_L tk_L nm_L 0 rfl rfl 4 (by decide) kw_76 rfl rfl ⟨rfl, rfl⟩ (Nat.le_of_ble_eq_true rfl) rfl d_L_init_33 (fun H locs hw => ?_)
  refine lv_aload_n hx hb d_L_init_36 rfl (lv_at hl 0 rfl) ?_
  refine lv_bipush (v := 7) hx hb d_L_init_37 (by decide) ?_
  refine zz_newa (atype := .long) (ty := .long) (N' := 7) (a0 := (7, .inr (.inl (fun _ => 0)))) cx hw rfl (fun _ _ => Iff.rfl) kw_535 2 rfl (zz_nal 7) (by decide) (by decide) (by decide) (Nat.le_of_ble_eq_true rfl) (Nat.le_of_ble_eq_true rfl) d_L_init_39 (k2 := 5) (n2 := 327) rfl rfl (fun q5 H hw => ?_)
  replace hw : zz_Wd D zz_cl A s.heap H _ [(h0, .inr (2, [.int 0, .ref q1, .ref q2, .ref q3, .ref q4, .null, .null, .null, .null, .null, .null, .int 0])), (q1, .inl (cI, 80, .inl (fun _ => 0))), (q2, .inl (cI, 80, .inl (fun _ => 0))), (q3, .inl (cI, 80, .inl (fun _ => 0))), (q4, .inl (cI, 80, .inl (fun _ => 0))), (q5, .inl (cL, 7, .inr (.inl (fun _ => 0))))] := hw
  refine zz_putF (v := .ref q5) (ws' := [(h0, .inr (2, [.int 0, .ref q1, .ref q2, .ref q3, .ref q4, .ref q5, .null, .null, .null, .null, .null, .int 0])), (q1, .inl (cI, 80, .inl (fun _ => 0))), (q2, .inl (cI, 80, .inl (fun _ => 0))), (q3, .inl (cI, 80, .inl (fun _ => 0))), (q4, .inl (cI, 80, .inl (fun _ => 0))), (q5, .inl (cL, 7, .inr (.inl (fun _ => 0))))]) cx hin2 hw in_L ty_L tk_L nm_L 0 rfl rfl 5 (by decide) kw_69 rfl rfl ⟨rfl, rfl⟩ (Nat.le_of_ble_eq_true rfl) rfl d_L_init_41 (fun H locs hw => ?_)
  refine lv_aload_n hx hb d_L_init_44 rfl (lv_at hl 0 rfl) ?_
  refine lv_bipush (v := 7) hx hb d_L_init_45 (by decide) ?_
  refine zz_newa (atype := .long) (ty := .long) (N' := 7) (a0 := (7, .inr (.inl (fun _ => 0)))) cx hw rfl (fun _ _ => Iff.rfl) kw_535 2 rfl (zz_nal 7) (by decide) (by decide) (by decide) (Nat.le_of_ble_eq_true rfl) (Nat.le_of_ble_eq_true rfl) d_L_init_47 (k2 := 6) (n2 := 334) rfl rfl (fun q6 H hw => ?_)
  replace hw : zz_Wd D zz_cl A s.heap H _ [(h0, .inr (2, [.int 0, .ref q1, .ref q2, .ref q3, .ref q4, .ref q5, .null, .null, .null, .null, .null, .int 0])), (q1, .inl (cI, 80, .inl (fun _ => 0))), (q2, .inl (cI, 80, .inl (fun _ => 0))), (q3, .inl (cI, 80, .inl (fun _ => 0))), (q4, .inl (cI, 80, .inl (fun _ => 0))), (q5, .inl (cL, 7, .inr (.inl (fun _ => 0)))), (q6, .inl (cL, 7, .inr (.inl (fun _ => 0))))] := hw
  refine zz_putF (v := .ref q6) (ws' := [(h0, .inr (2, [.int 0, .ref q1, .ref q2, .ref q3, .ref q4, .ref q5, .ref q6, .null, .null, .null, .null, .int 0])), (q1, .inl (cI, 80, .inl (fun _ => 0))), (q2, .inl (cI, 80, .inl (fun _ => 0))), (q3, .inl (cI, 80, .inl (fun _ => 0))), (q4, .inl (cI, 80, .inl (fun _ => 0))), (q5, .inl (cL, 7, .inr (.inl (fun _ => 0)))), (q6, .inl (cL, 7, .inr (.inl (fun _ => 0))))]) cx hin2 hw in_L ty_L tk_L nm_L 0 rfl rfl 6 (by decide) kw_70 rfl rfl ⟨rfl, rfl⟩ (Nat.le_of_ble_eq_true rfl) rfl d_L_init_49 (fun H locs hw => ?_)
  refine lv_aload_n hx hb d_L_init_52 rfl (lv_at hl 0 rfl) ?_
  refine lv_sipush (v := 156) hx hb d_L_init_53 (by decide) ?_
  refine zz_newa (atype := .long) (ty := .long) (N' := 156) (a0 := (156, .inr (.inl (fun _ => 0)))) cx hw rfl (fun _ _ => Iff.rfl) kw_535 2 rfl (zz_nal 156) (by decide) (by decide) (by decide) (Nat.le_of_ble_eq_true rfl) (Nat.le_of_ble_eq_true rfl) d_L_init_56 (k2 := 7) (n2 := 490) rfl rfl (fun q7 H hw => ?_)
  replace hw : zz_Wd D zz_cl A s.heap H _ [(h0, .inr (2, [.int 0, .ref q1, .ref q2, .ref q3, .ref q4, .ref q5, .ref q6, .null, .null, .null, .null, .int 0])), (q1, .inl (cI, 80, .inl (fun _ => 0))), (q2, .inl (cI, 80, .inl (fun _ => 0))), (q3, .inl (cI, 80, .inl (fun _ => 0))), (q4, .inl (cI, 80, .inl (fun _ => 0))), (q5, .inl (cL, 7, .inr (.inl (fun _ => 0)))), (q6, .inl (cL, 7, .inr (.inl (fun _ => 0)))), (q7, .inl (cL, 156, .inr (.inl (fun _ => 0))))] := hw
  refine zz_putF (v := .ref q7) (ws' := [(h0, .inr (2, [.int 0, .ref q1, .ref q2, .ref q3, .ref q4, .ref q5, .ref q6, .ref q7, .null, .null, .null, .int 0])), (q1, .inl (cI, 80, .inl (fun _ => 0))), (q2, .inl (cI, 80, .inl (fun _ => 0))), (q3, .inl (cI, 80, .inl (fun _ => 0))), (q4, .inl (cI, 80, .inl (fun _ => 0))), (q5, .inl (cL, 7, .inr (.inl (fun _ => 0)))), (q6, .inl (cL, 7, .inr (.inl (fun _ => 0)))), (q7, .inl (cL, 156, .inr (.inl (fun _ => 0))))]) cx hin2 hw in_L ty_L tk_L nm_L 0 rfl rfl 7 (by decide) kw_71 rfl rfl ⟨rfl, rfl⟩ (Nat.le_of_ble_eq_true rfl) rfl d_L_init_58 (fun H locs hw => ?_)
  refine lv_aload_n hx hb d_L_init_61 rfl (lv_at hl 0 rfl) ?_
  refine lv_sipush (v := 156) hx hb d_L_init_62 (by decide) ?_
  refine zz_newa (atype := .long) (ty := .long) (N' := 156) (a0 := (156, .inr (.inl (fun _ => 0)))) cx hw rfl (fun _ _ => Iff.rfl) kw_535 2 rfl (zz_nal 156) (by decide) (by decide) (by decide) (Nat.le_of_ble_eq_true rfl) (Nat.le_of_ble_eq_true rfl) d_L_init_65 (k2 := 8) (n2 := 646) rfl rfl (fun q8 H hw => ?_)
  replace hw : zz_Wd D zz_cl A s.heap H _ [(h0, .inr (2, [.int 0, .ref q1, .ref q2, .ref q3, .ref q4, .ref q5, .ref q6, .ref q7, .null, .null, .null, .int 0])), (q1, .inl (cI, 80, .inl (fun _ => 0))), (q2, .inl (cI, 80, .inl (fun _ => 0))), (q3, .inl (cI, 80, .inl (fun _ => 0))), (q4, .inl (cI, 80, .inl (fun _ => 0))), (q5, .inl (cL, 7, .inr (.inl (fun _ => 0)))), (q6, .inl (cL, 7, .inr (.inl (fun _ => 0)))), (q7, .inl (cL, 156, .inr (.inl (fun _ => 0)))), (q8, .inl (cL, 156, .inr (.inl (fun _ => 0))))] := hw
  refine zz_putF (v := .ref q8) (ws' := [(h0, .inr (2, [.int 0, .ref q1, .ref q2, .ref q3, .ref q4, .ref q5, .ref q6, .ref q7, .ref q8, .null, .null, .int 0])), (q1, .inl (cI, 80, .inl (fun _ => 0))), (q2, .inl (cI, 80, .inl (fun _ => 0))), (q3, .inl (cI, 80, .inl (fun _ => 0))), (q4, .inl (cI, 80, .inl (fun _ => 0))), (q5, .inl (cL, 7, .inr (.inl (fun _ => 0)))), (q6, .inl (cL, 7, .inr (.inl (fun _ => 0)))), (q7, .inl (cL, 156, .inr (.inl (fun _ => 0)))), (q8, .inl (cL, 156, .inr (.inl (fun _ => 0))))]) cx hin2 hw in_L ty_L tk_L nm_L 0 rfl rfl 8 (by decide) kw_72 rfl rfl ⟨rfl, rfl⟩ (Nat.le_of_ble_eq_true rfl) rfl d_L_init_67 (fun H locs hw => ?_)
  refine lv_aload_n hx hb d_L_init_70 rfl (lv_at hl 0 rfl) ?_
  refine lv_sipush (v := 480) hx hb d_L_init_71 (by decide) ?_
  refine zz_newa (atype := .int) (ty := .int) (N' := 480) (a0 := (480, .inl (fun _ => 0))) cx hw rfl (fun _ _ => Iff.rfl) kw_534 0 rfl (zz_nai 480) (by decide) (by decide) (by decide) (Nat.le_of_ble_eq_true rfl) (Nat.le_of_ble_eq_true rfl) d_L_init_74 (k2 := 9) (n2 := 1126) rfl rfl (fun q9 H hw => ?_)
  replace hw : zz_Wd D zz_cl A s.heap H _ [(h0, .inr (2, [.int 0, .ref q1, .ref q2, .ref q3, .ref q4, .ref q5, .ref q6, .ref q7, .ref q8, .null, .null, .int 0])), (q1, .inl (cI, 80, .inl (fun _ => 0))), (q2, .inl (cI, 80, .inl (fun _ => 0))), (q3, .inl (cI, 80, .inl (fun _ => 0))), (q4, .inl (cI, 80, .inl (fun _ => 0))), (q5, .inl (cL, 7, .inr (.inl (fun _ => 0)))), (q6, .inl (cL, 7, .inr (.inl (fun _ => 0)))), (q7, .inl (cL, 156, .inr (.inl (fun _ => 0)))), (q8, .inl (cL, 156, .inr (.inl (fun _ => 0)))), (q9, .inl (cI, 480, .inl (fun _ => 0)))] := hw
  refine zz_putF (v := .ref q9) (ws' := [(h0, .inr (2, [.int 0, .ref q1, .ref q2, .ref q3, .ref q4, .ref q5, .ref q6, .ref q7, .ref q8, .ref q9, .null, .int 0])), (q1, .inl (cI, 80, .inl (fun _ => 0))), (q2, .inl (cI, 80, .inl (fun _ => 0))), (q3, .inl (cI, 80, .inl (fun _ => 0))), (q4, .inl (cI, 80, .inl (fun _ => 0))), (q5, .inl (cL, 7, .inr (.inl (fun _ => 0)))), (q6, .inl (cL, 7, .inr (.inl (fun _ => 0)))), (q7, .inl (cL, 156, .inr (.inl (fun _ => 0)))), (q8, .inl (cL, 156, .inr (.inl (fun _ => 0)))), (q9, .inl (cI, 480, .inl (fun _ => 0)))]) cx hin2 hw in_L ty_L tk_L nm_L 0 rfl rfl 9 (by decide) kw_54 rfl rfl ⟨rfl, rfl⟩ (Nat.le_of_ble_eq_true rfl) rfl d_L_init_76 (fun H locs hw => ?_)
  refine lv_aload_n hx hb d_L_init_79 rfl (lv_at hl 0 rfl) ?_
  refine lv_bipush (v := 6) hx hb d_L_init_80 (by decide) ?_
  refine zz_newa (atype := .int) (ty := .int) (N' := 6) (a0 := (6, .inl (fun _ => 0))) cx hw rfl (fun _ _ => Iff.rfl) kw_534 0 rfl (zz_nai 6) (by decide) (by decide) (by decide) (Nat.le_of_ble_eq_true rfl) (Nat.le_of_ble_eq_true rfl) d_L_init_82 (k2 := 10) (n2 := 1132) rfl rfl (fun q10 H hw => ?_)
  replace hw : zz_Wd D zz_cl A s.heap H _ [(h0, .inr (2, [.int 0, .ref q1, .ref q2, .ref q3, .ref q4, .ref q5, .ref q6, .ref q7, .ref q8, .ref q9, .null, .int 0])), (q1, .inl (cI, 80, .inl (fun _ => 0))), (q2, .inl (cI, 80, .inl (fun _ => 0))), (q3, .inl (cI, 80, .inl (fun _ => 0))), (q4, .inl (cI, 80, .inl (fun _ => 0))), (q5, .inl (cL, 7, .inr (.inl (fun _ => 0)))), (q6, .inl (cL, 7, .inr (.inl (fun _ => 0)))), (q7, .inl (cL, 156, .inr (.inl (fun _ => 0)))), (q8, .inl (cL, 156, .inr (.inl (fun _ => 0)))), (q9, .inl (cI, 480, .inl (fun _ => 0))), (q10, .inl (cI, 6, .inl (fun _ => 0)))] := hw
  refine zz_putF (v := .ref q10) (ws' := [(h0, .inr (2, [.int 0, .ref q1, .ref q2, .ref q3, .ref q4, .ref q5, .ref q6, .ref q7, .ref q8, .ref q9, .ref q10, .int 0])), (q1, .inl (cI, 80, .inl (fun _ => 0))), (q2, .inl (cI, 80, .inl (fun _ => 0))), (q3, .inl (cI, 80, .inl (fun _ => 0))), (q4, .inl (cI, 80, .inl (fun _ => 0))), (q5, .inl (cL, 7, .inr (.inl (fun _ => 0)))), (q6, .inl (cL, 7, .inr (.inl (fun _ => 0)))), (q7, .inl (cL, 156, .inr (.inl (fun _ => 0)))), (q8, .inl (cL, 156, .inr (.inl (fun _ => 0)))), (q9, .inl (cI, 480, .inl (fun _ => 0))), (q10, .inl (cI, 6, .inl (fun _ => 0)))]) cx hin2 hw in_L ty_L tk_L nm_L 0 rfl rfl 10 (by decide) kw_56 rfl rfl ⟨rfl, rfl⟩ (Nat.le_of_ble_eq_true rfl) rfl d_L_init_84 (fun H locs hw => ?_)
  exact zz_retn (wfs := gn_L cI cZ cL) (u := zz_ad [h0, q1, q2, q3, q4, q5, q6, q7, q8, q9, q10]) cx (show zz_Wd D zz_cl A s.heap H _ (gn_L cI cZ cL (zz_ad [h0, q1, q2, q3, q4, q5, q6, q7, q8, q9, q10])) from hw) d_L_init_87 rfl
def gn_F (cI cZ cL : ClassId) (gr li : Nat) (a : Nat → Nat) : va_W := [(a 0, .inr (3, [.ref gr, .ref li, .ref (a 1), .int (-1)])), (a 1, .inl (cI, 24, .inl (fun _ => 0)))]
set_option maxRecDepth 100000 in
set_option maxHeartbeats 4000000 in
theorem ct_F_init (l : Launch) (D : va_G) (cI cZ cL : ClassId) (h0 : Nat) (gr li : Nat) : zz_MN l y_F_init (.code y_F_init b_F_init 3 none :: zz_tbl) rm_F_init D zz_cl (zz_ty cI cZ cL) [.ref h0, .ref gr, .ref li] [(h0, .inr (3, [.null, .null, .null, .int 0]))] (fun _ => True) (gn_F cI cZ cL gr li) 1 24 (fun a : Nat → Nat => a 0 = h0) := by
  refine zz_ofN (by decide) rfl (Nat.le_of_ble_eq_true rfl) ?_
  intro p e s m below meth c A cx hex hin2 hw ls hl
  obtain ⟨hx, hb, hr, hml, hown, hts, hlk, hK, hA⟩ := id cx
  refine lv_aload_n hx hb d_F_init_0 rfl (lv_at hl 0 rfl) ?_
  refine zz_oinit cx hl.1 kw_536 kw_532 kw_533 d_F_init_1 (Nat.le_of_ble_eq_true rfl) (Nat.le_of_ble_eq_true rfl) ?_
  refine lv_aload_n hx hb d_F_init_4 rfl (lv_at hl 0 rfl) ?_
  refine lv_bipush (v := 24) hx hb d_F_init_5 (by decide) ?_
  refine zz_newa (atype := .int) (ty := .int) (N' := 24) (a0 := (24, .inl (fun _ => 0))) cx hw rfl (fun _ _ => Iff.rfl) kw_534 0 rfl (zz_nai 24) (by decide) (by decide) (by decide) (Nat.le_of_ble_eq_true rfl) (Nat.le_of_ble_eq_true rfl) d_F_init_7 (k2 := 1) (n2 := 24) rfl rfl (fun q1 H hw => ?_)
  replace hw : zz_Wd D zz_cl A s.heap H _ [(h0, .inr (3, [.null, .null, .null, .int 0])), (q1, .inl (cI, 24, .inl (fun _ => 0)))] := hw
  refine zz_putF (v := .ref q1) (ws' := [(h0, .inr (3, [.null, .null, .ref q1, .int 0])), (q1, .inl (cI, 24, .inl (fun _ => 0)))]) cx hin2 hw in_F ty_F tk_F nm_F 0 rfl rfl 2 (by decide) kw_103 rfl rfl ⟨rfl, rfl⟩ (Nat.le_of_ble_eq_true rfl) rfl d_F_init_9 (fun H locs hw => ?_)
  refine lv_aload_n hx hb d_F_init_12 rfl (lv_at hl 0 rfl) ?_
  refine lv_iconst (v := (-1)) hx hb d_F_init_13 (by decide) ?_
  refine zz_put (v := .int (-1)) (ws' := [(h0, .inr (3, [.null, .null, .ref q1, .int (-1)])), (q1, .inl (cI, 24, .inl (fun _ => 0)))]) cx hw in_F ty_F tk_F nm_F 0 rfl rfl 3 (by decide) kw_102 rfl ⟨rfl, rfl⟩ (Nat.le_of_ble_eq_true rfl) rfl d_F_init_14 (fun H locs hw => ?_)
  refine lv_aload_n hx hb d_F_init_17 rfl (lv_at hl 0 rfl) ?_
  refine lv_aload_n hx hb d_F_init_18 rfl (lv_at hl 1 rfl) ?_
  refine zz_putF (v := .ref gr) (ws' := [(h0, .inr (3, [.ref gr, .null, .ref q1, .int (-1)])), (q1, .inl (cI, 24, .inl (fun _ => 0)))]) cx hin2 hw in_F ty_F tk_F nm_F 0 rfl rfl 0 (by decide) kw_104 rfl rfl ⟨rfl, rfl⟩ (Nat.le_of_ble_eq_true rfl) rfl d_F_init_19 (fun H locs hw => ?_)
  refine lv_aload_n hx hb d_F_init_22 rfl (lv_at hl 0 rfl) ?_
  refine lv_aload_n hx hb d_F_init_23 rfl (lv_at hl 2 rfl) ?_
  refine zz_putF (v := .ref li) (ws' := [(h0, .inr (3, [.ref gr, .ref li, .ref q1, .int (-1)])), (q1, .inl (cI, 24, .inl (fun _ => 0)))]) cx hin2 hw in_F ty_F tk_F nm_F 0 rfl rfl 1 (by decide) kw_107 rfl rfl ⟨rfl, rfl⟩ (Nat.le_of_ble_eq_true rfl) rfl d_F_init_24 (fun H locs hw => ?_)
  exact zz_retn (wfs := gn_F cI cZ cL gr li) (u := zz_ad [h0, q1]) cx (show zz_Wd D zz_cl A s.heap H _ (gn_F cI cZ cL gr li (zz_ad [h0, q1])) from hw) d_F_init_27 rfl
def gn_S (cI cZ cL : ClassId) (gr li fo : Nat) (a : Nat → Nat) : va_W := [(a 0, .inr (4, [.ref gr, .ref li, .ref fo, .ref (a 1), .ref (a 2), .ref (a 3), .long 0, .long 0, .int 0, .int 0, .int 0, .int 0, .int 0, .int 0])), (a 1, .inl (cL, 600, .inr (.inl (fun _ => 0)))), (a 2, .inl (cL, 600, .inr (.inl (fun _ => 0)))), (a 3, .inl (cI, 24, .inl (fun _ => 0)))]
set_option maxRecDepth 100000 in
set_option maxHeartbeats 4000000 in
theorem ct_S_init (l : Launch) (D : va_G) (cI cZ cL : ClassId) (h0 : Nat) (gr li fo : Nat) : zz_MN l y_S_init (.code y_S_init b_S_init 4 none :: zz_tbl) rm_S_init D zz_cl (zz_ty cI cZ cL) [.ref h0, .ref gr, .ref li, .ref fo] [(h0, .inr (4, [.null, .null, .null, .null, .null, .null, .long 0, .long 0, .int 0, .int 0, .int 0, .int 0, .int 0, .int 0]))] (fun _ => True) (gn_S cI cZ cL gr li fo) 3 1224 (fun a : Nat → Nat => a 0 = h0) := by
  refine zz_ofN (by decide) rfl (Nat.le_of_ble_eq_true rfl) ?_
  intro p e s m below meth c A cx hex hin2 hw ls hl
  obtain ⟨hx, hb, hr, hml, hown, hts, hlk, hK, hA⟩ := id cx
  refine lv_aload_n hx hb d_S_init_0 rfl (lv_at hl 0 rfl) ?_
  refine zz_oinit cx hl.1 kw_537 kw_532 kw_533 d_S_init_1 (Nat.le_of_ble_eq_true rfl) (Nat.le_of_ble_eq_true rfl) ?_
  refine lv_aload_n hx hb d_S_init_4 rfl (lv_at hl 0 rfl) ?_
  refine lv_sipush (v := 600) hx hb d_S_init_5 (by decide) ?_
  refine zz_newa (atype := .long) (ty := .long) (N' := 600) (a0 := (600, .inr (.inl (fun _ => 0)))) cx hw rfl (fun _ _ => Iff.rfl) kw_535 2 rfl (zz_nal 600) (by decide) (by decide) (by decide) (Nat.le_of_ble_eq_true rfl) (Nat.le_of_ble_eq_true rfl) d_S_init_8 (k2 := 1) (n2 := 600) rfl rfl (fun q1 H hw => ?_)
  replace hw : zz_Wd D zz_cl A s.heap H _ [(h0, .inr (4, [.null, .null, .null, .null, .null, .null, .long 0, .long 0, .int 0, .int 0, .int 0, .int 0, .int 0, .int 0])), (q1, .inl (cL, 600, .inr (.inl (fun _ => 0))))] := hw
  refine zz_putF (v := .ref q1) (ws' := [(h0, .inr (4, [.null, .null, .null, .ref q1, .null, .null, .long 0, .long 0, .int 0, .int 0, .int 0, .int 0, .int 0, .int 0])), (q1, .inl (cL, 600, .inr (.inl (fun _ => 0))))]) cx hin2 hw in_S ty_S tk_S nm_S 0 rfl rfl 3 (by decide) kw_134 rfl rfl ⟨rfl, rfl⟩ (Nat.le_of_ble_eq_true rfl) rfl d_S_init_10 (fun H locs hw => ?_)
  refine lv_aload_n hx hb d_S_init_13 rfl (lv_at hl 0 rfl) ?_
  refine lv_sipush (v := 600) hx hb d_S_init_14 (by decide) ?_
  refine zz_newa (atype := .long) (ty := .long) (N' := 600) (a0 := (600, .inr (.inl (fun _ => 0)))) cx hw rfl (fun _ _ => Iff.rfl) kw_535 2 rfl (zz_nal 600) (by decide) (by decide) (by decide) (Nat.le_of_ble_eq_true rfl) (Nat.le_of_ble_eq_true rfl) d_S_init_17 (k2 := 2) (n2 := 1200) rfl rfl (fun q2 H hw => ?_)
  replace hw : zz_Wd D zz_cl A s.heap H _ [(h0, .inr (4, [.null, .null, .null, .ref q1, .null, .null, .long 0, .long 0, .int 0, .int 0, .int 0, .int 0, .int 0, .int 0])), (q1, .inl (cL, 600, .inr (.inl (fun _ => 0)))), (q2, .inl (cL, 600, .inr (.inl (fun _ => 0))))] := hw
  refine zz_putF (v := .ref q2) (ws' := [(h0, .inr (4, [.null, .null, .null, .ref q1, .ref q2, .null, .long 0, .long 0, .int 0, .int 0, .int 0, .int 0, .int 0, .int 0])), (q1, .inl (cL, 600, .inr (.inl (fun _ => 0)))), (q2, .inl (cL, 600, .inr (.inl (fun _ => 0))))]) cx hin2 hw in_S ty_S tk_S nm_S 0 rfl rfl 4 (by decide) kw_137 rfl rfl ⟨rfl, rfl⟩ (Nat.le_of_ble_eq_true rfl) rfl d_S_init_19 (fun H locs hw => ?_)
  refine lv_aload_n hx hb d_S_init_22 rfl (lv_at hl 0 rfl) ?_
  refine lv_bipush (v := 24) hx hb d_S_init_23 (by decide) ?_
  refine zz_newa (atype := .int) (ty := .int) (N' := 24) (a0 := (24, .inl (fun _ => 0))) cx hw rfl (fun _ _ => Iff.rfl) kw_534 0 rfl (zz_nai 24) (by decide) (by decide) (by decide) (Nat.le_of_ble_eq_true rfl) (Nat.le_of_ble_eq_true rfl) d_S_init_25 (k2 := 3) (n2 := 1224) rfl rfl (fun q3 H hw => ?_)
  replace hw : zz_Wd D zz_cl A s.heap H _ [(h0, .inr (4, [.null, .null, .null, .ref q1, .ref q2, .null, .long 0, .long 0, .int 0, .int 0, .int 0, .int 0, .int 0, .int 0])), (q1, .inl (cL, 600, .inr (.inl (fun _ => 0)))), (q2, .inl (cL, 600, .inr (.inl (fun _ => 0)))), (q3, .inl (cI, 24, .inl (fun _ => 0)))] := hw
  refine zz_putF (v := .ref q3) (ws' := [(h0, .inr (4, [.null, .null, .null, .ref q1, .ref q2, .ref q3, .long 0, .long 0, .int 0, .int 0, .int 0, .int 0, .int 0, .int 0])), (q1, .inl (cL, 600, .inr (.inl (fun _ => 0)))), (q2, .inl (cL, 600, .inr (.inl (fun _ => 0)))), (q3, .inl (cI, 24, .inl (fun _ => 0)))]) cx hin2 hw in_S ty_S tk_S nm_S 0 rfl rfl 5 (by decide) kw_166 rfl rfl ⟨rfl, rfl⟩ (Nat.le_of_ble_eq_true rfl) rfl d_S_init_27 (fun H locs hw => ?_)
  refine lv_aload_n hx hb d_S_init_30 rfl (lv_at hl 0 rfl) ?_
  refine lv_aload_n hx hb d_S_init_31 rfl (lv_at hl 1 rfl) ?_
  refine zz_putF (v := .ref gr) (ws' := [(h0, .inr (4, [.ref gr, .null, .null, .ref q1, .ref q2, .ref q3, .long 0, .long 0, .int 0, .int 0, .int 0, .int 0, .int 0, .int 0])), (q1, .inl (cL, 600, .inr (.inl (fun _ => 0)))), (q2, .inl (cL, 600, .inr (.inl (fun _ => 0)))), (q3, .inl (cI, 24, .inl (fun _ => 0)))]) cx hin2 hw in_S ty_S tk_S nm_S 0 rfl rfl 0 (by decide) kw_139 rfl rfl ⟨rfl, rfl⟩ (Nat.le_of_ble_eq_true rfl) rfl d_S_init_32 (fun H locs hw => ?_)
  refine lv_aload_n hx hb d_S_init_35 rfl (lv_at hl 0 rfl) ?_
  refine lv_aload_n hx hb d_S_init_36 rfl (lv_at hl 2 rfl) ?_
  refine zz_putF (v := .ref li) (ws' := [(h0, .inr (4, [.ref gr, .ref li, .null, .ref q1, .ref q2, .ref q3, .long 0, .long 0, .int 0, .int 0, .int 0, .int 0, .int 0, .int 0])), (q1, .inl (cL, 600, .inr (.inl (fun _ => 0)))), (q2, .inl (cL, 600, .inr (.inl (fun _ => 0)))), (q3, .inl (cI, 24, .inl (fun _ => 0)))]) cx hin2 hw in_S ty_S tk_S nm_S 0 rfl rfl 1 (by decide) kw_135 rfl rfl ⟨rfl, rfl⟩ (Nat.le_of_ble_eq_true rfl) rfl d_S_init_37 (fun H locs hw => ?_)
  refine lv_aload_n hx hb d_S_init_40 rfl (lv_at hl 0 rfl) ?_
  refine lv_aload_n hx hb d_S_init_41 rfl (lv_at hl 3 rfl) ?_
  refine zz_putF (v := .ref fo) (ws' := [(h0, .inr (4, [.ref gr, .ref li, .ref fo, .ref q1, .ref q2, .ref q3, .long 0, .long 0, .int 0, .int 0, .int 0, .int 0, .int 0, .int 0])), (q1, .inl (cL, 600, .inr (.inl (fun _ => 0)))), (q2, .inl (cL, 600, .inr (.inl (fun _ => 0)))), (q3, .inl (cI, 24, .inl (fun _ => 0)))]) cx hin2 hw in_S ty_S tk_S nm_S 0 rfl rfl 2 (by decide) kw_169 rfl rfl ⟨rfl, rfl⟩ (Nat.le_of_ble_eq_true rfl) rfl d_S_init_42 (fun H locs hw => ?_)
  exact zz_retn (wfs := gn_S cI cZ cL gr li fo) (u := zz_ad [h0, q1, q2, q3]) cx (show zz_Wd D zz_cl A s.heap H _ (gn_S cI cZ cL gr li fo (zz_ad [h0, q1, q2, q3])) from hw) d_S_init_45 rfl
