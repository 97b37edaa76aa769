theorem zz_sw16_0 (x : Int32) : x = 0 ∨ x = 1 ∨ x = 2 ∨ x = 3 ∨ x = 4 ∨ x = 5 ∨ x = 6 ∨ x = 7 ∨ x = 8 ∨ x = 9 ∨ x = 10 ∨ x = 11 ∨ x = 12 ∨ x = 13 ∨ x = 14 ∨ x = 15 ∨ (x.toInt < 0 ∨ 15 < x.toInt) := by
  simp only [← Int32.toInt_inj, show (0 : Int32).toInt = 0 from rfl, show (1 : Int32).toInt = 1 from rfl, show (2 : Int32).toInt = 2 from rfl, show (3 : Int32).toInt = 3 from rfl, show (4 : Int32).toInt = 4 from rfl, show (5 : Int32).toInt = 5 from rfl, show (6 : Int32).toInt = 6 from rfl, show (7 : Int32).toInt = 7 from rfl, show (8 : Int32).toInt = 8 from rfl, show (9 : Int32).toInt = 9 from rfl, show (10 : Int32).toInt = 10 from rfl, show (11 : Int32).toInt = 11 from rfl, show (12 : Int32).toInt = 12 from rfl, show (13 : Int32).toInt = 13 from rfl, show (14 : Int32).toInt = 14 from rfl, show (15 : Int32).toInt = 15 from rfl]
  omega
set_option maxRecDepth 100000 in
set_option maxHeartbeats 4000000 in
theorem wk_W_law_526 {p : Program} {l : Launch} {e : Env} {s : State} {m : MethodId} {below : List Frame} {meth : Method} {c : Code} {D : va_G} {cI cZ cL : ClassId} {aC aM : Nat → Nat} {b L : Nat} {xs : Nat → Int32} (cx : zz_Cx p s m #[Value.ref b] meth c "GridFillsLaw" b_W_law 4 (some .boolean) D zz_cl (zz_ty cI cZ cL) (fun q : Nat => s.heap.size ≤ q)) (hX : va_X b L xs s s.heap) (hbl : b < s.heap.size) {kn38 : Int32 → zz_St → zz_St → Prop} (hkn38 : ∀ (x3 : Int32) (uC uM : zz_St) (H : Heap) (locs : List Loc) (ls : Array Slot), zz_Wd D zz_cl (fun q : Nat => s.heap.size ≤ q) s.heap H locs (gw_C cI cZ cL aC uC ++ gw_M cI cZ cL aM uM) → lv_has ls 4 [(0, .ref b), (1, .ref (aC 0)), (2, .ref (aM 0)), (3, .int x3)] → kn38 x3 uC uM → W p l e room_1 s m #[Value.ref b] below meth c H locs 600000 7302250 (lw_Z below #[Value.ref b] s) (F0 m 38 ls [])) : ∀ (x3 : Int32) (uC uM : zz_St) (H : Heap) (locs : List Loc) (ls : Array Slot), zz_Wd D zz_cl (fun q : Nat => s.heap.size ≤ q) s.heap H locs (gw_C cI cZ cL aC uC ++ gw_M cI cZ cL aM uM) → lv_has ls 4 [(0, .ref b), (1, .ref (aC 0)), (2, .ref (aM 0)), (3, .int x3)] → wp_W_law_526 L xs kn38 x3 uC uM → W p l e room_1 s m #[Value.ref b] below meth c H locs 600000 7302250 (lw_Z below #[Value.ref b] s) (F0 m 526 ls []) := by
  intro x3 uC uM H locs ls hw hl h
  unfold wp_W_law_526 at h
  obtain ⟨hx, hb, hr, hml, hown, hts, hlk, hK, hA⟩ := id cx
  have hbA : ¬ (fun q : Nat => s.heap.size ≤ q) b := Nat.not_le.mpr hbl
  refine lv_iinc (v := x3 + 4) (lv' := [(3, .int (x3 + 4)), (0, .ref b), (1, .ref (aC 0)), (2, .ref (aM 0))]) hx hb d_W_law_526 hl (k := 3) rfl rfl (by decide) rfl (fun ls hl => ?_)
  refine lv_goto (tgt := 38) hx hb d_W_law_529 (by decide) ?_
  exact hkn38 (x3 + 4) uC uM _ _ _ hw (lv_sub hl [1, 2, 3, 0] rfl) h
set_option maxRecDepth 100000 in
set_option maxHeartbeats 4000000 in
theorem wk_W_law_183 {p : Program} {l : Launch} {e : Env} {s : State} {m : MethodId} {below : List Frame} {meth : Method} {c : Code} {D : va_G} {cI cZ cL : ClassId} {aC aM : Nat → Nat} {b L : Nat} {xs : Nat → Int32} (cx : zz_Cx p s m #[Value.ref b] meth c "GridFillsLaw" b_W_law 4 (some .boolean) D zz_cl (zz_ty cI cZ cL) (fun q : Nat => s.heap.size ≤ q)) (hX : va_X b L xs s s.heap) (hbl : b < s.heap.size) {kn38 : Int32 → zz_St → zz_St → Prop} (hkn38 : ∀ (x3 : Int32) (uC uM : zz_St) (H : Heap) (locs : List Loc) (ls : Array Slot), zz_Wd D zz_cl (fun q : Nat => s.heap.size ≤ q) s.heap H locs (gw_C cI cZ cL aC uC ++ gw_M cI cZ cL aM uM) → lv_has ls 4 [(0, .ref b), (1, .ref (aC 0)), (2, .ref (aM 0)), (3, .int x3)] → kn38 x3 uC uM → W p l e room_1 s m #[Value.ref b] below meth c H locs 600000 7302250 (lw_Z below #[Value.ref b] s) (F0 m 38 ls [])) : ∀ (x3 : Int32) (y0 : Int32) (y1 : Int32) (y2 : Int32) (y4 : Int32) (uC uM : zz_St) (H : Heap) (locs : List Loc) (ls : Array Slot), zz_Wd D zz_cl (fun q : Nat => s.heap.size ≤ q) s.heap H locs (gw_C cI cZ cL aC uC ++ gw_M cI cZ cL aM uM) → lv_has ls 4 [(0, .ref b), (1, .ref (aC 0)), (2, .ref (aM 0)), (3, .int x3)] → wp_W_law_183 L xs kn38 x3 y0 y1 y2 y4 uC uM → W p l e room_1 s m #[Value.ref b] below meth c H locs 600000 7302250 (lw_Z below #[Value.ref b] s) (F0 m 183 ls [.int y0, .int y1, .int y2, .ref (aM 0), .int y4]) := by
  intro x3 y0 y1 y2 y4 uC uM H locs ls hw hl h
  unfold wp_W_law_183 at h
  obtain ⟨hx, hb, hr, hml, hown, hts, hlk, hK, hA⟩ := id cx
  have hbA : ¬ (fun q : Nat => s.heap.size ≤ q) b := Nat.not_le.mpr hbl
  refine zz_lawR (As := [.int y2, .int y1, .int y0]) (rest := [.int y4]) cx hw (ct_M_black l D cI cZ cL aM h) (zz_gV kw_520 kw_522 kw_523 kw_301 kw_521) hd_M_black ⟨rfl, rfl⟩ ⟨Nat.le_of_ble_eq_true rfl, Nat.le_of_ble_eq_true rfl⟩ 0 rfl rfl rfl rfl hl.1 rfl (Nat.le_of_ble_eq_true rfl) d_W_law_183 (fun r81 s82 H locs h hw => ?_)
  refine lv_icmp_eq (tgt := 526) hx hb d_W_law_186 (by decide) (fun c83 => ?_) (fun c83 => ?_)
  · replace h := h.1 c83
    exact wk_W_law_526 cx hX hbl hkn38 x3 uC s82 _ _ _ hw (lv_sub hl [0, 1, 2, 3] rfl) h
  · replace h := h.2 c83
    refine lv_iconst (v := 0) hx hb d_W_law_189 (by decide) ?_
    exact False.elim h
set_option maxRecDepth 100000 in
set_option maxHeartbeats 4000000 in
theorem wk_W_law_156 {p : Program} {l : Launch} {e : Env} {s : State} {m : MethodId} {below : List Frame} {meth : Method} {c : Code} {D : va_G} {cI cZ cL : ClassId} {aC aM : Nat → Nat} {b L : Nat} {xs : Nat → Int32} (cx : zz_Cx p s m #[Value.ref b] meth c "GridFillsLaw" b_W_law 4 (some .boolean) D zz_cl (zz_ty cI cZ cL) (fun q : Nat => s.heap.size ≤ q)) (hX : va_X b L xs s s.heap) (hbl : b < s.heap.size) {kn38 : Int32 → zz_St → zz_St → Prop} (hkn38 : ∀ (x3 : Int32) (uC uM : zz_St) (H : Heap) (locs : List Loc) (ls : Array Slot), zz_Wd D zz_cl (fun q : Nat => s.heap.size ≤ q) s.heap H locs (gw_C cI cZ cL aC uC ++ gw_M cI cZ cL aM uM) → lv_has ls 4 [(0, .ref b), (1, .ref (aC 0)), (2, .ref (aM 0)), (3, .int x3)] → kn38 x3 uC uM → W p l e room_1 s m #[Value.ref b] below meth c H locs 600000 7302250 (lw_Z below #[Value.ref b] s) (F0 m 38 ls [])) : ∀ (x3 : Int32) (y0 : Int32) (y1 : Int32) (y2 : Int32) (uC uM : zz_St) (H : Heap) (locs : List Loc) (ls : Array Slot), zz_Wd D zz_cl (fun q : Nat => s.heap.size ≤ q) s.heap H locs (gw_C cI cZ cL aC uC ++ gw_M cI cZ cL aM uM) → lv_has ls 4 [(0, .ref b), (1, .ref (aC 0)), (2, .ref (aM 0)), (3, .int x3)] → wp_W_law_156 L xs kn38 x3 y0 y1 y2 uC uM → W p l e room_1 s m #[Value.ref b] below meth c H locs 600000 7302250 (lw_Z below #[Value.ref b] s) (F0 m 156 ls [.int y0, .int y1, .int y2, .ref (aC 0)]) := by
  intro x3 y0 y1 y2 uC uM H locs ls hw hl h
  unfold wp_W_law_156 at h
  obtain ⟨hx, hb, hr, hml, hown, hts, hlk, hK, hA⟩ := id cx
  have hbA : ¬ (fun q : Nat => s.heap.size ≤ q) b := Nat.not_le.mpr hbl
  refine zz_lawL (As := [.int y2, .int y1, .int y0]) (rest := []) cx hw (ct_X_black l D cI cZ cL aC h) (zz_gV kw_516 kw_518 kw_519 kw_201 kw_517) hd_X_black ⟨rfl, rfl⟩ ⟨Nat.le_of_ble_eq_true rfl, Nat.le_of_ble_eq_true rfl⟩ 0 rfl rfl rfl rfl hl.1 rfl (Nat.le_of_ble_eq_true rfl) d_W_law_156 (fun r78 s79 H locs h hw => ?_)
  refine lv_aload_n hx hb d_W_law_159 rfl (lv_at hl 2 rfl) ?_
  refine lv_aload_n hx hb d_W_law_160 rfl (lv_at hl 0 rfl) ?_
  refine lv_iload_n hx hb d_W_law_161 rfl (lv_at hl 3 rfl) ?_
  refine lv_iconst (v := 1) hx hb d_W_law_162 (by decide) ?_
  refine lv_iadd hx hb d_W_law_163 ?_
  obtain ⟨hi, h⟩ := h
  refine va_sld hx hb hX hbl hbA hw.2.2 hi d_W_law_164 ?_
  refine lv_aload_n hx hb d_W_law_165 rfl (lv_at hl 0 rfl) ?_
  refine lv_iload_n hx hb d_W_law_166 rfl (lv_at hl 3 rfl) ?_
  refine lv_iconst (v := 2) hx hb d_W_law_167 (by decide) ?_
  refine lv_iadd hx hb d_W_law_168 ?_
  obtain ⟨hi, h⟩ := h
  refine va_sld hx hb hX hbl hbA hw.2.2 hi d_W_law_169 ?_
  refine lv_aload_n hx hb d_W_law_170 rfl (lv_at hl 0 rfl) ?_
  refine lv_iload_n hx hb d_W_law_171 rfl (lv_at hl 3 rfl) ?_
  refine lv_iconst (v := 3) hx hb d_W_law_172 (by decide) ?_
  refine lv_iadd hx hb d_W_law_173 ?_
  obtain ⟨hi, h⟩ := h
  refine va_sld hx hb hX hbl hbA hw.2.2 hi d_W_law_174 ?_
  refine lv_if_eq (tgt := 182) hx hb d_W_law_175 (by decide) (fun c80 => ?_) (fun c80 => ?_)
  · replace h := h.1 c80
    refine lv_iconst (v := 0) hx hb d_W_law_182 (by decide) ?_
    exact wk_W_law_183 cx hX hbl hkn38 x3 0 (xs (x3 + 2).toNatClampNeg) (xs (x3 + 1).toNatClampNeg) r78 s79 uM _ _ _ hw (lv_sub hl [0, 1, 2, 3] rfl) h
  · replace h := h.2 c80
    refine lv_iconst (v := 1) hx hb d_W_law_178 (by decide) ?_
    refine lv_goto (tgt := 183) hx hb d_W_law_179 (by decide) ?_
    exact wk_W_law_183 cx hX hbl hkn38 x3 1 (xs (x3 + 2).toNatClampNeg) (xs (x3 + 1).toNatClampNeg) r78 s79 uM _ _ _ hw (lv_sub hl [0, 1, 2, 3] rfl) h
set_option maxRecDepth 100000 in
set_option maxHeartbeats 4000000 in
theorem wk_W_law_38 {p : Program} {l : Launch} {e : Env} {s : State} {m : MethodId} {below : List Frame} {meth : Method} {c : Code} {D : va_G} {cI cZ cL : ClassId} {aC aM : Nat → Nat} {b L : Nat} {xs : Nat → Int32} (cx : zz_Cx p s m #[Value.ref b] meth c "GridFillsLaw" b_W_law 4 (some .boolean) D zz_cl (zz_ty cI cZ cL) (fun q : Nat => s.heap.size ≤ q)) (hX : va_X b L xs s s.heap) (hbl : b < s.heap.size) {kn38 : Int32 → zz_St → zz_St → Prop} (hkn38 : ∀ (x3 : Int32) (uC uM : zz_St) (H : Heap) (locs : List Loc) (ls : Array Slot), zz_Wd D zz_cl (fun q : Nat => s.heap.size ≤ q) s.heap H locs (gw_C cI cZ cL aC uC ++ gw_M cI cZ cL aM uM) → lv_has ls 4 [(0, .ref b), (1, .ref (aC 0)), (2, .ref (aM 0)), (3, .int x3)] → kn38 x3 uC uM → W p l e room_1 s m #[Value.ref b] below meth c H locs 600000 7302250 (lw_Z below #[Value.ref b] s) (F0 m 38 ls [])) : ∀ (x3 : Int32) (uC uM : zz_St) (H : Heap) (locs : List Loc) (ls : Array Slot), zz_Wd D zz_cl (fun q : Nat => s.heap.size ≤ q) s.heap H locs (gw_C cI cZ cL aC uC ++ gw_M cI cZ cL aM uM) → lv_has ls 4 [(0, .ref b), (1, .ref (aC 0)), (2, .ref (aM 0)), (3, .int x3)] → wp_W_law_38 L xs kn38 x3 uC uM → W p l e room_1 s m #[Value.ref b] below meth c H locs 600000 7302250 (lw_Z below #[Value.ref b] s) (F0 m 38 ls []) := by
  intro x3 uC uM H locs ls hw hl h
  unfold wp_W_law_38 at h
  obtain ⟨hx, hb, hr, hml, hown, hts, hlk, hK, hA⟩ := id cx
  have hbA : ¬ (fun q : Nat => s.heap.size ≤ q) b := Nat.not_le.mpr hbl
  refine lv_iload_n hx hb d_W_law_38 rfl (lv_at hl 3 rfl) ?_
  refine lv_aload_n hx hb d_W_law_39 rfl (lv_at hl 0 rfl) ?_
  refine va_slen hx hb hX hbl hbA hw.2.2 d_W_law_40 ?_
  refine lv_iconst (v := 4) hx hb d_W_law_41 (by decide) ?_
  refine lv_isub hx hb d_W_law_42 ?_
  refine lv_icmp_gt (tgt := 532) hx hb d_W_law_43 (by decide) (fun c1 => ?_) (fun c1 => ?_)
  · replace h := h.1 c1
    refine lv_iconst (v := 1) hx hb d_W_law_532 (by decide) ?_
    refine va_forget (fun q hq => hw.2.2.2.2 q hq) ?_
    exact lw_ret hx hb hr hlk d_W_law_533
  · replace h := h.2 c1
    refine lv_aload_n hx hb d_W_law_46 rfl (lv_at hl 0 rfl) ?_
    refine lv_iload_n hx hb d_W_law_47 rfl (lv_at hl 3 rfl) ?_
    obtain ⟨hi, h⟩ := h
    refine va_sld hx hb hX hbl hbA hw.2.2 hi d_W_law_48 ?_
    refine lv_bipush (v := 15) hx hb d_W_law_49 (by decide) ?_
    refine lv_iand hx hb d_W_law_51 ?_
    rcases zz_sw16_0 ((xs x3.toNatClampNeg) &&& 15) with c_sw | c_sw | c_sw | c_sw | c_sw | c_sw | c_sw | c_sw | c_sw | c_sw | c_sw | c_sw | c_sw | c_sw | c_sw | c_sw | c_sw
    · replace h := h.1 c_sw
      refine lv_tableIn (tgt := 132) hx hb d_W_law_52 (by rw [c_sw]; decide) (by rw [c_sw]; decide) (by rw [c_sw]; rfl) (by decide) ?_
      refine lv_aload_n hx hb d_W_law_132 rfl (lv_at hl 1 rfl) ?_
      refine lv_aload_n hx hb d_W_law_133 rfl (lv_at hl 0 rfl) ?_
      refine lv_iload_n hx hb d_W_law_134 rfl (lv_at hl 3 rfl) ?_
      refine lv_iconst (v := 1) hx hb d_W_law_135 (by decide) ?_
      refine lv_iadd hx hb d_W_law_136 ?_
      obtain ⟨hi, h⟩ := h
      refine va_sld hx hb hX hbl hbA hw.2.2 hi d_W_law_137 ?_
      refine lv_aload_n hx hb d_W_law_138 rfl (lv_at hl 0 rfl) ?_
      refine lv_iload_n hx hb d_W_law_139 rfl (lv_at hl 3 rfl) ?_
      refine lv_iconst (v := 2) hx hb d_W_law_140 (by decide) ?_
      refine lv_iadd hx hb d_W_law_141 ?_
      obtain ⟨hi, h⟩ := h
      refine va_sld hx hb hX hbl hbA hw.2.2 hi d_W_law_142 ?_
      refine lv_aload_n hx hb d_W_law_143 rfl (lv_at hl 0 rfl) ?_
      refine lv_iload_n hx hb d_W_law_144 rfl (lv_at hl 3 rfl) ?_
      refine lv_iconst (v := 3) hx hb d_W_law_145 (by decide) ?_
      refine lv_iadd hx hb d_W_law_146 ?_
      obtain ⟨hi, h⟩ := h
      refine va_sld hx hb hX hbl hbA hw.2.2 hi d_W_law_147 ?_
      refine lv_if_eq (tgt := 155) hx hb d_W_law_148 (by decide) (fun c2 => ?_) (fun c2 => ?_)
      · replace h := h.1 c2
        refine lv_iconst (v := 0) hx hb d_W_law_155 (by decide) ?_
        exact wk_W_law_156 cx hX hbl hkn38 x3 0 (xs (x3 + 2).toNatClampNeg) (xs (x3 + 1).toNatClampNeg) uC uM _ _ _ hw (lv_sub hl [0, 1, 2, 3] rfl) h
      · replace h := h.2 c2
        refine lv_iconst (v := 1) hx hb d_W_law_151 (by decide) ?_
        refine lv_goto (tgt := 156) hx hb d_W_law_152 (by decide) ?_
        exact wk_W_law_156 cx hX hbl hkn38 x3 1 (xs (x3 + 2).toNatClampNeg) (xs (x3 + 1).toNatClampNeg) uC uM _ _ _ hw (lv_sub hl [0, 1, 2, 3] rfl) h
    · replace h := h.2.1 c_sw
      refine lv_tableIn (tgt := 191) hx hb d_W_law_52 (by rw [c_sw]; decide) (by rw [c_sw]; decide) (by rw [c_sw]; rfl) (by decide) ?_
      refine lv_aload_n hx hb d_W_law_191 rfl (lv_at hl 1 rfl) ?_
      refine lv_aload_n hx hb d_W_law_192 rfl (lv_at hl 0 rfl) ?_
      refine lv_iload_n hx hb d_W_law_193 rfl (lv_at hl 3 rfl) ?_
      refine lv_iconst (v := 1) hx hb d_W_law_194 (by decide) ?_
      refine lv_iadd hx hb d_W_law_195 ?_
      obtain ⟨hi, h⟩ := h
      refine va_sld hx hb hX hbl hbA hw.2.2 hi d_W_law_196 ?_
      refine zz_lawL (As := [.int (xs (x3 + 1).toNatClampNeg)]) (rest := []) cx hw (ct_X_unit l D cI cZ cL aC h) (zz_gV kw_400 kw_402 kw_403 kw_201 kw_401) hd_X_unit ⟨rfl, rfl⟩ ⟨Nat.le_of_ble_eq_true rfl, Nat.le_of_ble_eq_true rfl⟩ 0 rfl rfl rfl rfl hl.1 rfl (Nat.le_of_ble_eq_true rfl) d_W_law_197 (fun r3 s4 H locs h hw => ?_)
      refine lv_aload_n hx hb d_W_law_200 rfl (lv_at hl 2 rfl) ?_
      refine lv_aload_n hx hb d_W_law_201 rfl (lv_at hl 0 rfl) ?_
      refine lv_iload_n hx hb d_W_law_202 rfl (lv_at hl 3 rfl) ?_
      refine lv_iconst (v := 1) hx hb d_W_law_203 (by decide) ?_
      refine lv_iadd hx hb d_W_law_204 ?_
      obtain ⟨hi, h⟩ := h
      refine va_sld hx hb hX hbl hbA hw.2.2 hi d_W_law_205 ?_
      refine zz_lawR (As := [.int (xs (x3 + 1).toNatClampNeg)]) (rest := [.int r3]) cx hw (ct_M_unit l D cI cZ cL aM h) (zz_gV kw_396 kw_398 kw_399 kw_301 kw_397) hd_M_unit ⟨rfl, rfl⟩ ⟨Nat.le_of_ble_eq_true rfl, Nat.le_of_ble_eq_true rfl⟩ 0 rfl rfl rfl rfl hl.1 rfl (Nat.le_of_ble_eq_true rfl) d_W_law_206 (fun r5 s6 H locs h hw => ?_)
      refine lv_icmp_eq (tgt := 526) hx hb d_W_law_209 (by decide) (fun c7 => ?_) (fun c7 => ?_)
      · replace h := h.1 c7
        exact wk_W_law_526 cx hX hbl hkn38 x3 s4 s6 _ _ _ hw (lv_sub hl [0, 1, 2, 3] rfl) h
      · replace h := h.2 c7
        refine lv_iconst (v := 0) hx hb d_W_law_212 (by decide) ?_
        exact False.elim h
    · replace h := h.2.2.1 c_sw
      refine lv_tableIn (tgt := 214) hx hb d_W_law_52 (by rw [c_sw]; decide) (by rw [c_sw]; decide) (by rw [c_sw]; rfl) (by decide) ?_
      refine lv_aload_n hx hb d_W_law_214 rfl (lv_at hl 1 rfl) ?_
      refine lv_aload_n hx hb d_W_law_215 rfl (lv_at hl 0 rfl) ?_
      refine lv_iload_n hx hb d_W_law_216 rfl (lv_at hl 3 rfl) ?_
      refine lv_iconst (v := 1) hx hb d_W_law_217 (by decide) ?_
      refine lv_iadd hx hb d_W_law_218 ?_
      obtain ⟨hi, h⟩ := h
      refine va_sld hx hb hX hbl hbA hw.2.2 hi d_W_law_219 ?_
      refine zz_lawL (As := [.int (xs (x3 + 1).toNatClampNeg)]) (rest := []) cx hw (ct_X_word l D cI cZ cL aC h) (zz_gV kw_408 kw_410 kw_411 kw_201 kw_409) hd_X_word ⟨rfl, rfl⟩ ⟨Nat.le_of_ble_eq_true rfl, Nat.le_of_ble_eq_true rfl⟩ 0 rfl rfl rfl rfl hl.1 rfl (Nat.le_of_ble_eq_true rfl) d_W_law_220 (fun r8 s9 H locs h hw => ?_)
      refine lv_aload_n hx hb d_W_law_223 rfl (lv_at hl 2 rfl) ?_
      refine lv_aload_n hx hb d_W_law_224 rfl (lv_at hl 0 rfl) ?_
      refine lv_iload_n hx hb d_W_law_225 rfl (lv_at hl 3 rfl) ?_
      refine lv_iconst (v := 1) hx hb d_W_law_226 (by decide) ?_
      refine lv_iadd hx hb d_W_law_227 ?_
      obtain ⟨hi, h⟩ := h
      refine va_sld hx hb hX hbl hbA hw.2.2 hi d_W_law_228 ?_
      refine zz_lawR (As := [.int (xs (x3 + 1).toNatClampNeg)]) (rest := [.int r8]) cx hw (ct_M_word l D cI cZ cL aM h) (zz_gV kw_404 kw_406 kw_407 kw_301 kw_405) hd_M_word ⟨rfl, rfl⟩ ⟨Nat.le_of_ble_eq_true rfl, Nat.le_of_ble_eq_true rfl⟩ 0 rfl rfl rfl rfl hl.1 rfl (Nat.le_of_ble_eq_true rfl) d_W_law_229 (fun r10 s11 H locs h hw => ?_)
      refine lv_icmp_eq (tgt := 526) hx hb d_W_law_232 (by decide) (fun c12 => ?_) (fun c12 => ?_)
      · replace h := h.1 c12
        exact wk_W_law_526 cx hX hbl hkn38 x3 s9 s11 _ _ _ hw (lv_sub hl [0, 1, 2, 3] rfl) h
      · replace h := h.2 c12
        refine lv_iconst (v := 0) hx hb d_W_law_235 (by decide) ?_
        exact False.elim h
    · replace h := h.2.2.2.1 c_sw
      refine lv_tableIn (tgt := 237) hx hb d_W_law_52 (by rw [c_sw]; decide) (by rw [c_sw]; decide) (by rw [c_sw]; rfl) (by decide) ?_
      refine lv_aload_n hx hb d_W_law_237 rfl (lv_at hl 1 rfl) ?_
      refine lv_aload_n hx hb d_W_law_238 rfl (lv_at hl 0 rfl) ?_
      refine lv_iload_n hx hb d_W_law_239 rfl (lv_at hl 3 rfl) ?_
      refine lv_iconst (v := 1) hx hb d_W_law_240 (by decide) ?_
      refine lv_iadd hx hb d_W_law_241 ?_
      obtain ⟨hi, h⟩ := h
      refine va_sld hx hb hX hbl hbA hw.2.2 hi d_W_law_242 ?_
      refine lv_aload_n hx hb d_W_law_243 rfl (lv_at hl 0 rfl) ?_
      refine lv_iload_n hx hb d_W_law_244 rfl (lv_at hl 3 rfl) ?_
      refine lv_iconst (v := 2) hx hb d_W_law_245 (by decide) ?_
      refine lv_iadd hx hb d_W_law_246 ?_
      obtain ⟨hi, h⟩ := h
      refine va_sld hx hb hX hbl hbA hw.2.2 hi d_W_law_247 ?_
      refine lv_aload_n hx hb d_W_law_248 rfl (lv_at hl 0 rfl) ?_
      refine lv_iload_n hx hb d_W_law_249 rfl (lv_at hl 3 rfl) ?_
      refine lv_iconst (v := 3) hx hb d_W_law_250 (by decide) ?_
      refine lv_iadd hx hb d_W_law_251 ?_
      obtain ⟨hi, h⟩ := h
      refine va_sld hx hb hX hbl hbA hw.2.2 hi d_W_law_252 ?_
      refine zz_lawL (As := [.int (xs (x3 + 1).toNatClampNeg), .int (xs (x3 + 2).toNatClampNeg), .int (xs (x3 + 3).toNatClampNeg)]) (rest := []) cx hw (ct_X_given l D cI cZ cL aC h) (zz_gV kw_416 kw_418 kw_419 kw_201 kw_417) hd_X_given ⟨rfl, rfl⟩ ⟨Nat.le_of_ble_eq_true rfl, Nat.le_of_ble_eq_true rfl⟩ 0 rfl rfl rfl rfl hl.1 rfl (Nat.le_of_ble_eq_true rfl) d_W_law_253 (fun r13 s14 H locs h hw => ?_)
      refine lv_aload_n hx hb d_W_law_256 rfl (lv_at hl 2 rfl) ?_
      refine lv_aload_n hx hb d_W_law_257 rfl (lv_at hl 0 rfl) ?_
      refine lv_iload_n hx hb d_W_law_258 rfl (lv_at hl 3 rfl) ?_
      refine lv_iconst (v := 1) hx hb d_W_law_259 (by decide) ?_
      refine lv_iadd hx hb d_W_law_260 ?_
      obtain ⟨hi, h⟩ := h
      refine va_sld hx hb hX hbl hbA hw.2.2 hi d_W_law_261 ?_
      refine lv_aload_n hx hb d_W_law_262 rfl (lv_at hl 0 rfl) ?_
      refine lv_iload_n hx hb d_W_law_263 rfl (lv_at hl 3 rfl) ?_
      refine lv_iconst (v := 2) hx hb d_W_law_264 (by decide) ?_
      refine lv_iadd hx hb d_W_law_265 ?_
      obtain ⟨hi, h⟩ := h
      refine va_sld hx hb hX hbl hbA hw.2.2 hi d_W_law_266 ?_
      refine lv_aload_n hx hb d_W_law_267 rfl (lv_at hl 0 rfl) ?_
      refine lv_iload_n hx hb d_W_law_268 rfl (lv_at hl 3 rfl) ?_
      refine lv_iconst (v := 3) hx hb d_W_law_269 (by decide) ?_
      refine lv_iadd hx hb d_W_law_270 ?_
      obtain ⟨hi, h⟩ := h
      refine va_sld hx hb hX hbl hbA hw.2.2 hi d_W_law_271 ?_
      refine zz_lawR (As := [.int (xs (x3 + 1).toNatClampNeg), .int (xs (x3 + 2).toNatClampNeg), .int (xs (x3 + 3).toNatClampNeg)]) (rest := [.int r13]) cx hw (ct_M_given l D cI cZ cL aM h) (zz_gV kw_412 kw_414 kw_415 kw_301 kw_413) hd_M_given ⟨rfl, rfl⟩ ⟨Nat.le_of_ble_eq_true rfl, Nat.le_of_ble_eq_true rfl⟩ 0 rfl rfl rfl rfl hl.1 rfl (Nat.le_of_ble_eq_true rfl) d_W_law_272 (fun r15 s16 H locs h hw => ?_)
      refine lv_icmp_eq (tgt := 526) hx hb d_W_law_275 (by decide) (fun c17 => ?_) (fun c17 => ?_)
      · replace h := h.1 c17
        exact wk_W_law_526 cx hX hbl hkn38 x3 s14 s16 _ _ _ hw (lv_sub hl [0, 1, 2, 3] rfl) h
      · replace h := h.2 c17
        refine lv_iconst (v := 0) hx hb d_W_law_278 (by decide) ?_
        exact False.elim h
    · replace h := h.2.2.2.2.1 c_sw
      refine lv_tableIn (tgt := 280) hx hb d_W_law_52 (by rw [c_sw]; decide) (by rw [c_sw]; decide) (by rw [c_sw]; rfl) (by decide) ?_
      refine lv_aload_n hx hb d_W_law_280 rfl (lv_at hl 1 rfl) ?_
      refine lv_aload_n hx hb d_W_law_281 rfl (lv_at hl 0 rfl) ?_
      refine lv_iload_n hx hb d_W_law_282 rfl (lv_at hl 3 rfl) ?_
      refine lv_iconst (v := 1) hx hb d_W_law_283 (by decide) ?_
      refine lv_iadd hx hb d_W_law_284 ?_
      obtain ⟨hi, h⟩ := h
      refine va_sld hx hb hX hbl hbA hw.2.2 hi d_W_law_285 ?_
      refine lv_aload_n hx hb d_W_law_286 rfl (lv_at hl 0 rfl) ?_
      refine lv_iload_n hx hb d_W_law_287 rfl (lv_at hl 3 rfl) ?_
      refine lv_iconst (v := 2) hx hb d_W_law_288 (by decide) ?_
      refine lv_iadd hx hb d_W_law_289 ?_
      obtain ⟨hi, h⟩ := h
      refine va_sld hx hb hX hbl hbA hw.2.2 hi d_W_law_290 ?_
      refine zz_lawL (As := [.int (xs (x3 + 1).toNatClampNeg), .int (xs (x3 + 2).toNatClampNeg)]) (rest := []) cx hw (ct_X_theme l D cI cZ cL aC h) (zz_gV kw_424 kw_426 kw_427 kw_201 kw_425) hd_X_theme ⟨rfl, rfl⟩ ⟨Nat.le_of_ble_eq_true rfl, Nat.le_of_ble_eq_true rfl⟩ 0 rfl rfl rfl rfl hl.1 rfl (Nat.le_of_ble_eq_true rfl) d_W_law_291 (fun r18 s19 H locs h hw => ?_)
      refine lv_aload_n hx hb d_W_law_294 rfl (lv_at hl 2 rfl) ?_
      refine lv_aload_n hx hb d_W_law_295 rfl (lv_at hl 0 rfl) ?_
      refine lv_iload_n hx hb d_W_law_296 rfl (lv_at hl 3 rfl) ?_
      refine lv_iconst (v := 1) hx hb d_W_law_297 (by decide) ?_
      refine lv_iadd hx hb d_W_law_298 ?_
      obtain ⟨hi, h⟩ := h
      refine va_sld hx hb hX hbl hbA hw.2.2 hi d_W_law_299 ?_
      refine lv_aload_n hx hb d_W_law_300 rfl (lv_at hl 0 rfl) ?_
      refine lv_iload_n hx hb d_W_law_301 rfl (lv_at hl 3 rfl) ?_
      refine lv_iconst (v := 2) hx hb d_W_law_302 (by decide) ?_
      refine lv_iadd hx hb d_W_law_303 ?_
      obtain ⟨hi, h⟩ := h
      refine va_sld hx hb hX hbl hbA hw.2.2 hi d_W_law_304 ?_
      refine zz_lawR (As := [.int (xs (x3 + 1).toNatClampNeg), .int (xs (x3 + 2).toNatClampNeg)]) (rest := [.int r18]) cx hw (ct_M_theme l D cI cZ cL aM h) (zz_gV kw_420 kw_422 kw_423 kw_301 kw_421) hd_M_theme ⟨rfl, rfl⟩ ⟨Nat.le_of_ble_eq_true rfl, Nat.le_of_ble_eq_true rfl⟩ 0 rfl rfl rfl rfl hl.1 rfl (Nat.le_of_ble_eq_true rfl) d_W_law_305 (fun r20 s21 H locs h hw => ?_)
      refine lv_icmp_eq (tgt := 526) hx hb d_W_law_308 (by decide) (fun c22 => ?_) (fun c22 => ?_)
      · replace h := h.1 c22
        exact wk_W_law_526 cx hX hbl hkn38 x3 s19 s21 _ _ _ hw (lv_sub hl [0, 1, 2, 3] rfl) h
      · replace h := h.2 c22
        refine lv_iconst (v := 0) hx hb d_W_law_311 (by decide) ?_
        exact False.elim h
    · replace h := h.2.2.2.2.2.1 c_sw
      refine lv_tableIn (tgt := 313) hx hb d_W_law_52 (by rw [c_sw]; decide) (by rw [c_sw]; decide) (by rw [c_sw]; rfl) (by decide) ?_
      refine lv_aload_n hx hb d_W_law_313 rfl (lv_at hl 1 rfl) ?_
      refine zz_lawL (As := []) (rest := []) cx hw (ct_X_slots l D cI cZ cL aC h) (zz_gV kw_432 kw_434 kw_435 kw_201 kw_433) hd_X_slots ⟨rfl, rfl⟩ ⟨Nat.le_of_ble_eq_true rfl, Nat.le_of_ble_eq_true rfl⟩ 0 rfl rfl rfl rfl hl.1 rfl (Nat.le_of_ble_eq_true rfl) d_W_law_314 (fun r23 s24 H locs h hw => ?_)
      refine lv_aload_n hx hb d_W_law_317 rfl (lv_at hl 2 rfl) ?_
      refine zz_lawR (As := []) (rest := [.int r23]) cx hw (ct_M_slots l D cI cZ cL aM h) (zz_gV kw_428 kw_430 kw_431 kw_301 kw_429) hd_M_slots ⟨rfl, rfl⟩ ⟨Nat.le_of_ble_eq_true rfl, Nat.le_of_ble_eq_true rfl⟩ 0 rfl rfl rfl rfl hl.1 rfl (Nat.le_of_ble_eq_true rfl) d_W_law_318 (fun r25 s26 H locs h hw => ?_)
      refine lv_icmp_eq (tgt := 526) hx hb d_W_law_321 (by decide) (fun c27 => ?_) (fun c27 => ?_)
      · replace h := h.1 c27
        exact wk_W_law_526 cx hX hbl hkn38 x3 s24 s26 _ _ _ hw (lv_sub hl [0, 1, 2, 3] rfl) h
      · replace h := h.2 c27
        refine lv_iconst (v := 0) hx hb d_W_law_324 (by decide) ?_
        exact False.elim h
    · replace h := h.2.2.2.2.2.2.1 c_sw
      refine lv_tableIn (tgt := 326) hx hb d_W_law_52 (by rw [c_sw]; decide) (by rw [c_sw]; decide) (by rw [c_sw]; rfl) (by decide) ?_
      refine lv_aload_n hx hb d_W_law_326 rfl (lv_at hl 1 rfl) ?_
      refine lv_aload_n hx hb d_W_law_327 rfl (lv_at hl 0 rfl) ?_
      refine lv_iload_n hx hb d_W_law_328 rfl (lv_at hl 3 rfl) ?_
      refine lv_iconst (v := 1) hx hb d_W_law_329 (by decide) ?_
      refine lv_iadd hx hb d_W_law_330 ?_
      obtain ⟨hi, h⟩ := h
      refine va_sld hx hb hX hbl hbA hw.2.2 hi d_W_law_331 ?_
      refine lv_aload_n hx hb d_W_law_332 rfl (lv_at hl 0 rfl) ?_
      refine lv_iload_n hx hb d_W_law_333 rfl (lv_at hl 3 rfl) ?_
      refine lv_iconst (v := 2) hx hb d_W_law_334 (by decide) ?_
      refine lv_iadd hx hb d_W_law_335 ?_
      obtain ⟨hi, h⟩ := h
      refine va_sld hx hb hX hbl hbA hw.2.2 hi d_W_law_336 ?_
      refine zz_lawL (As := [.int (xs (x3 + 1).toNatClampNeg), .int (xs (x3 + 2).toNatClampNeg)]) (rest := []) cx hw (ct_X_slot l D cI cZ cL aC h) (zz_gV kw_440 kw_442 kw_443 kw_201 kw_441) hd_X_slot ⟨rfl, rfl⟩ ⟨Nat.le_of_ble_eq_true rfl, Nat.le_of_ble_eq_true rfl⟩ 0 rfl rfl rfl rfl hl.1 rfl (Nat.le_of_ble_eq_true rfl) d_W_law_337 (fun r28 s29 H locs h hw => ?_)
      refine lv_aload_n hx hb d_W_law_340 rfl (lv_at hl 2 rfl) ?_
      refine lv_aload_n hx hb d_W_law_341 rfl (lv_at hl 0 rfl) ?_
      refine lv_iload_n hx hb d_W_law_342 rfl (lv_at hl 3 rfl) ?_
      refine lv_iconst (v := 1) hx hb d_W_law_343 (by decide) ?_
      refine lv_iadd hx hb d_W_law_344 ?_
      obtain ⟨hi, h⟩ := h
      refine va_sld hx hb hX hbl hbA hw.2.2 hi d_W_law_345 ?_
      refine lv_aload_n hx hb d_W_law_346 rfl (lv_at hl 0 rfl) ?_
      refine lv_iload_n hx hb d_W_law_347 rfl (lv_at hl 3 rfl) ?_
      refine lv_iconst (v := 2) hx hb d_W_law_348 (by decide) ?_
      refine lv_iadd hx hb d_W_law_349 ?_
      obtain ⟨hi, h⟩ := h
      refine va_sld hx hb hX hbl hbA hw.2.2 hi d_W_law_350 ?_
      refine zz_lawR (As := [.int (xs (x3 + 1).toNatClampNeg), .int (xs (x3 + 2).toNatClampNeg)]) (rest := [.int r28]) cx hw (ct_M_slot l D cI cZ cL aM h) (zz_gV kw_436 kw_438 kw_439 kw_301 kw_437) hd_M_slot ⟨rfl, rfl⟩ ⟨Nat.le_of_ble_eq_true rfl, Nat.le_of_ble_eq_true rfl⟩ 0 rfl rfl rfl rfl hl.1 rfl (Nat.le_of_ble_eq_true rfl) d_W_law_351 (fun r30 s31 H locs h hw => ?_)
      refine lv_icmp_eq (tgt := 526) hx hb d_W_law_354 (by decide) (fun c32 => ?_) (fun c32 => ?_)
      · replace h := h.1 c32
        exact wk_W_law_526 cx hX hbl hkn38 x3 s29 s31 _ _ _ hw (lv_sub hl [0, 1, 2, 3] rfl) h
      · replace h := h.2 c32
        refine lv_iconst (v := 0) hx hb d_W_law_357 (by decide) ?_
        exact False.elim h
    · replace h := h.2.2.2.2.2.2.2.1 c_sw
      refine lv_tableIn (tgt := 359) hx hb d_W_law_52 (by rw [c_sw]; decide) (by rw [c_sw]; decide) (by rw [c_sw]; rfl) (by decide) ?_
      refine lv_aload_n hx hb d_W_law_359 rfl (lv_at hl 1 rfl) ?_
      refine lv_aload_n hx hb d_W_law_360 rfl (lv_at hl 0 rfl) ?_
      refine lv_iload_n hx hb d_W_law_361 rfl (lv_at hl 3 rfl) ?_
      refine lv_iconst (v := 1) hx hb d_W_law_362 (by decide) ?_
      refine lv_iadd hx hb d_W_law_363 ?_
      obtain ⟨hi, h⟩ := h
      refine va_sld hx hb hX hbl hbA hw.2.2 hi d_W_law_364 ?_
      refine zz_lawL (As := [.int (xs (x3 + 1).toNatClampNeg)]) (rest := []) cx hw (ct_X_run l D cI cZ cL aC h) (zz_gV kw_448 kw_450 kw_451 kw_201 kw_449) hd_X_run ⟨rfl, rfl⟩ ⟨Nat.le_of_ble_eq_true rfl, Nat.le_of_ble_eq_true rfl⟩ 0 rfl rfl rfl rfl hl.1 rfl (Nat.le_of_ble_eq_true rfl) d_W_law_365 (fun r33 s34 H locs h hw => ?_)
      refine lv_aload_n hx hb d_W_law_368 rfl (lv_at hl 2 rfl) ?_
      refine lv_aload_n hx hb d_W_law_369 rfl (lv_at hl 0 rfl) ?_
      refine lv_iload_n hx hb d_W_law_370 rfl (lv_at hl 3 rfl) ?_
      refine lv_iconst (v := 1) hx hb d_W_law_371 (by decide) ?_
      refine lv_iadd hx hb d_W_law_372 ?_
      obtain ⟨hi, h⟩ := h
      refine va_sld hx hb hX hbl hbA hw.2.2 hi d_W_law_373 ?_
      refine zz_lawR (As := [.int (xs (x3 + 1).toNatClampNeg)]) (rest := [.int r33]) cx hw (ct_M_run l D cI cZ cL aM h) (zz_gV kw_444 kw_446 kw_447 kw_301 kw_445) hd_M_run ⟨rfl, rfl⟩ ⟨Nat.le_of_ble_eq_true rfl, Nat.le_of_ble_eq_true rfl⟩ 0 rfl rfl rfl rfl hl.1 rfl (Nat.le_of_ble_eq_true rfl) d_W_law_374 (fun r35 s36 H locs h hw => ?_)
      refine lv_icmp_eq (tgt := 526) hx hb d_W_law_377 (by decide) (fun c37 => ?_) (fun c37 => ?_)
      · replace h := h.1 c37
        exact wk_W_law_526 cx hX hbl hkn38 x3 s34 s36 _ _ _ hw (lv_sub hl [0, 1, 2, 3] rfl) h
      · replace h := h.2 c37
        refine lv_iconst (v := 0) hx hb d_W_law_380 (by decide) ?_
        exact False.elim h
    · replace h := h.2.2.2.2.2.2.2.2.1 c_sw
      refine lv_tableIn (tgt := 382) hx hb d_W_law_52 (by rw [c_sw]; decide) (by rw [c_sw]; decide) (by rw [c_sw]; rfl) (by decide) ?_
      refine lv_aload_n hx hb d_W_law_382 rfl (lv_at hl 1 rfl) ?_
      refine lv_aload_n hx hb d_W_law_383 rfl (lv_at hl 0 rfl) ?_
      refine lv_iload_n hx hb d_W_law_384 rfl (lv_at hl 3 rfl) ?_
      refine lv_iconst (v := 1) hx hb d_W_law_385 (by decide) ?_
      refine lv_iadd hx hb d_W_law_386 ?_
      obtain ⟨hi, h⟩ := h
      refine va_sld hx hb hX hbl hbA hw.2.2 hi d_W_law_387 ?_
      refine zz_lawL (As := [.int (xs (x3 + 1).toNatClampNeg)]) (rest := []) cx hw (ct_X_best l D cI cZ cL aC h) (zz_gV kw_456 kw_458 kw_459 kw_201 kw_457) hd_X_best ⟨rfl, rfl⟩ ⟨Nat.le_of_ble_eq_true rfl, Nat.le_of_ble_eq_true rfl⟩ 0 rfl rfl rfl rfl hl.1 rfl (Nat.le_of_ble_eq_true rfl) d_W_law_388 (fun r38 s39 H locs h hw => ?_)
      refine lv_aload_n hx hb d_W_law_391 rfl (lv_at hl 2 rfl) ?_
      refine lv_aload_n hx hb d_W_law_392 rfl (lv_at hl 0 rfl) ?_
      refine lv_iload_n hx hb d_W_law_393 rfl (lv_at hl 3 rfl) ?_
      refine lv_iconst (v := 1) hx hb d_W_law_394 (by decide) ?_
      refine lv_iadd hx hb d_W_law_395 ?_
      obtain ⟨hi, h⟩ := h
      refine va_sld hx hb hX hbl hbA hw.2.2 hi d_W_law_396 ?_
      refine zz_lawR (As := [.int (xs (x3 + 1).toNatClampNeg)]) (rest := [.int r38]) cx hw (ct_M_best l D cI cZ cL aM h) (zz_gV kw_452 kw_454 kw_455 kw_301 kw_453) hd_M_best ⟨rfl, rfl⟩ ⟨Nat.le_of_ble_eq_true rfl, Nat.le_of_ble_eq_true rfl⟩ 0 rfl rfl rfl rfl hl.1 rfl (Nat.le_of_ble_eq_true rfl) d_W_law_397 (fun r40 s41 H locs h hw => ?_)
      refine lv_icmp_eq (tgt := 526) hx hb d_W_law_400 (by decide) (fun c42 => ?_) (fun c42 => ?_)
      · replace h := h.1 c42
        exact wk_W_law_526 cx hX hbl hkn38 x3 s39 s41 _ _ _ hw (lv_sub hl [0, 1, 2, 3] rfl) h
      · replace h := h.2 c42
        refine lv_iconst (v := 0) hx hb d_W_law_403 (by decide) ?_
        exact False.elim h
    · replace h := h.2.2.2.2.2.2.2.2.2.1 c_sw
      refine lv_tableIn (tgt := 405) hx hb d_W_law_52 (by rw [c_sw]; decide) (by rw [c_sw]; decide) (by rw [c_sw]; rfl) (by decide) ?_
      refine lv_aload_n hx hb d_W_law_405 rfl (lv_at hl 1 rfl) ?_
      refine zz_lawL (As := []) (rest := []) cx hw (ct_X_steps l D cI cZ cL aC h) (zz_gV kw_464 kw_466 kw_467 kw_201 kw_465) hd_X_steps ⟨rfl, rfl⟩ ⟨Nat.le_of_ble_eq_true rfl, Nat.le_of_ble_eq_true rfl⟩ 0 rfl rfl rfl rfl hl.1 rfl (Nat.le_of_ble_eq_true rfl) d_W_law_406 (fun r43 s44 H locs h hw => ?_)
      refine lv_aload_n hx hb d_W_law_409 rfl (lv_at hl 2 rfl) ?_
      refine zz_lawR (As := []) (rest := [.int r43]) cx hw (ct_M_steps l D cI cZ cL aM h) (zz_gV kw_460 kw_462 kw_463 kw_301 kw_461) hd_M_steps ⟨rfl, rfl⟩ ⟨Nat.le_of_ble_eq_true rfl, Nat.le_of_ble_eq_true rfl⟩ 0 rfl rfl rfl rfl hl.1 rfl (Nat.le_of_ble_eq_true rfl) d_W_law_410 (fun r45 s46 H locs h hw => ?_)
      refine lv_icmp_eq (tgt := 526) hx hb d_W_law_413 (by decide) (fun c47 => ?_) (fun c47 => ?_)
      · replace h := h.1 c47
        exact wk_W_law_526 cx hX hbl hkn38 x3 s44 s46 _ _ _ hw (lv_sub hl [0, 1, 2, 3] rfl) h
      · replace h := h.2 c47
        refine lv_iconst (v := 0) hx hb d_W_law_416 (by decide) ?_
        exact False.elim h
    · replace h := h.2.2.2.2.2.2.2.2.2.2.1 c_sw
      refine lv_tableIn (tgt := 418) hx hb d_W_law_52 (by rw [c_sw]; decide) (by rw [c_sw]; decide) (by rw [c_sw]; rfl) (by decide) ?_
      refine lv_aload_n hx hb d_W_law_418 rfl (lv_at hl 1 rfl) ?_
      refine zz_lawL (As := []) (rest := []) cx hw (ct_X_many l D cI cZ cL aC h) (zz_gV kw_472 kw_474 kw_475 kw_201 kw_473) hd_X_many ⟨rfl, rfl⟩ ⟨Nat.le_of_ble_eq_true rfl, Nat.le_of_ble_eq_true rfl⟩ 0 rfl rfl rfl rfl hl.1 rfl (Nat.le_of_ble_eq_true rfl) d_W_law_419 (fun r48 s49 H locs h hw => ?_)
      refine lv_aload_n hx hb d_W_law_422 rfl (lv_at hl 2 rfl) ?_
      refine zz_lawR (As := []) (rest := [.int r48]) cx hw (ct_M_many l D cI cZ cL aM h) (zz_gV kw_468 kw_470 kw_471 kw_301 kw_469) hd_M_many ⟨rfl, rfl⟩ ⟨Nat.le_of_ble_eq_true rfl, Nat.le_of_ble_eq_true rfl⟩ 0 rfl rfl rfl rfl hl.1 rfl (Nat.le_of_ble_eq_true rfl) d_W_law_423 (fun r50 s51 H locs h hw => ?_)
      refine lv_icmp_eq (tgt := 526) hx hb d_W_law_426 (by decide) (fun c52 => ?_) (fun c52 => ?_)
      · replace h := h.1 c52
        exact wk_W_law_526 cx hX hbl hkn38 x3 s49 s51 _ _ _ hw (lv_sub hl [0, 1, 2, 3] rfl) h
      · replace h := h.2 c52
        refine lv_iconst (v := 0) hx hb d_W_law_429 (by decide) ?_
        exact False.elim h
    · replace h := h.2.2.2.2.2.2.2.2.2.2.2.1 c_sw
      refine lv_tableIn (tgt := 431) hx hb d_W_law_52 (by rw [c_sw]; decide) (by rw [c_sw]; decide) (by rw [c_sw]; rfl) (by decide) ?_
      refine lv_aload_n hx hb d_W_law_431 rfl (lv_at hl 1 rfl) ?_
      refine zz_lawL (As := []) (rest := []) cx hw (ct_X_score l D cI cZ cL aC h) (zz_gV kw_480 kw_482 kw_483 kw_201 kw_481) hd_X_score ⟨rfl, rfl⟩ ⟨Nat.le_of_ble_eq_true rfl, Nat.le_of_ble_eq_true rfl⟩ 0 rfl rfl rfl rfl hl.1 rfl (Nat.le_of_ble_eq_true rfl) d_W_law_432 (fun r53 s54 H locs h hw => ?_)
      refine lv_aload_n hx hb d_W_law_435 rfl (lv_at hl 2 rfl) ?_
      refine zz_lawR (As := []) (rest := [.int r53]) cx hw (ct_M_score l D cI cZ cL aM h) (zz_gV kw_476 kw_478 kw_479 kw_301 kw_477) hd_M_score ⟨rfl, rfl⟩ ⟨Nat.le_of_ble_eq_true rfl, Nat.le_of_ble_eq_true rfl⟩ 0 rfl rfl rfl rfl hl.1 rfl (Nat.le_of_ble_eq_true rfl) d_W_law_436 (fun r55 s56 H locs h hw => ?_)
      refine lv_icmp_eq (tgt := 526) hx hb d_W_law_439 (by decide) (fun c57 => ?_) (fun c57 => ?_)
      · replace h := h.1 c57
        exact wk_W_law_526 cx hX hbl hkn38 x3 s54 s56 _ _ _ hw (lv_sub hl [0, 1, 2, 3] rfl) h
      · replace h := h.2 c57
        refine lv_iconst (v := 0) hx hb d_W_law_442 (by decide) ?_
        exact False.elim h
    · replace h := h.2.2.2.2.2.2.2.2.2.2.2.2.1 c_sw
      refine lv_tableIn (tgt := 444) hx hb d_W_law_52 (by rw [c_sw]; decide) (by rw [c_sw]; decide) (by rw [c_sw]; rfl) (by decide) ?_
      refine lv_aload_n hx hb d_W_law_444 rfl (lv_at hl 1 rfl) ?_
      refine lv_aload_n hx hb d_W_law_445 rfl (lv_at hl 0 rfl) ?_
      refine lv_iload_n hx hb d_W_law_446 rfl (lv_at hl 3 rfl) ?_
      refine lv_iconst (v := 1) hx hb d_W_law_447 (by decide) ?_
      refine lv_iadd hx hb d_W_law_448 ?_
      obtain ⟨hi, h⟩ := h
      refine va_sld hx hb hX hbl hbA hw.2.2 hi d_W_law_449 ?_
      refine lv_aload_n hx hb d_W_law_450 rfl (lv_at hl 0 rfl) ?_
      refine lv_iload_n hx hb d_W_law_451 rfl (lv_at hl 3 rfl) ?_
      refine lv_iconst (v := 2) hx hb d_W_law_452 (by decide) ?_
      refine lv_iadd hx hb d_W_law_453 ?_
      obtain ⟨hi, h⟩ := h
      refine va_sld hx hb hX hbl hbA hw.2.2 hi d_W_law_454 ?_
      refine zz_lawL (As := [.int (xs (x3 + 1).toNatClampNeg), .int (xs (x3 + 2).toNatClampNeg)]) (rest := []) cx hw (ct_X_letter l D cI cZ cL aC h) (zz_gV kw_488 kw_490 kw_491 kw_201 kw_489) hd_X_letter ⟨rfl, rfl⟩ ⟨Nat.le_of_ble_eq_true rfl, Nat.le_of_ble_eq_true rfl⟩ 0 rfl rfl rfl rfl hl.1 rfl (Nat.le_of_ble_eq_true rfl) d_W_law_455 (fun r58 s59 H locs h hw => ?_)
      refine lv_aload_n hx hb d_W_law_458 rfl (lv_at hl 2 rfl) ?_
      refine lv_aload_n hx hb d_W_law_459 rfl (lv_at hl 0 rfl) ?_
      refine lv_iload_n hx hb d_W_law_460 rfl (lv_at hl 3 rfl) ?_
      refine lv_iconst (v := 1) hx hb d_W_law_461 (by decide) ?_
      refine lv_iadd hx hb d_W_law_462 ?_
      obtain ⟨hi, h⟩ := h
      refine va_sld hx hb hX hbl hbA hw.2.2 hi d_W_law_463 ?_
      refine lv_aload_n hx hb d_W_law_464 rfl (lv_at hl 0 rfl) ?_
      refine lv_iload_n hx hb d_W_law_465 rfl (lv_at hl 3 rfl) ?_
      refine lv_iconst (v := 2) hx hb d_W_law_466 (by decide) ?_
      refine lv_iadd hx hb d_W_law_467 ?_
      obtain ⟨hi, h⟩ := h
      refine va_sld hx hb hX hbl hbA hw.2.2 hi d_W_law_468 ?_
      refine zz_lawR (As := [.int (xs (x3 + 1).toNatClampNeg), .int (xs (x3 + 2).toNatClampNeg)]) (rest := [.int r58]) cx hw (ct_M_letter l D cI cZ cL aM h) (zz_gV kw_484 kw_486 kw_487 kw_301 kw_485) hd_M_letter ⟨rfl, rfl⟩ ⟨Nat.le_of_ble_eq_true rfl, Nat.le_of_ble_eq_true rfl⟩ 0 rfl rfl rfl rfl hl.1 rfl (Nat.le_of_ble_eq_true rfl) d_W_law_469 (fun r60 s61 H locs h hw => ?_)
      refine lv_icmp_eq (tgt := 526) hx hb d_W_law_472 (by decide) (fun c62 => ?_) (fun c62 => ?_)
      · replace h := h.1 c62
        exact wk_W_law_526 cx hX hbl hkn38 x3 s59 s61 _ _ _ hw (lv_sub hl [0, 1, 2, 3] rfl) h
      · replace h := h.2 c62
        refine lv_iconst (v := 0) hx hb d_W_law_475 (by decide) ?_
        exact False.elim h
    · replace h := h.2.2.2.2.2.2.2.2.2.2.2.2.2.1 c_sw
      refine lv_tableIn (tgt := 477) hx hb d_W_law_52 (by rw [c_sw]; decide) (by rw [c_sw]; decide) (by rw [c_sw]; rfl) (by decide) ?_
      refine lv_aload_n hx hb d_W_law_477 rfl (lv_at hl 1 rfl) ?_
      refine zz_lawL (As := []) (rest := []) cx hw (ct_X_check l D cI cZ cL aC h) (zz_gV kw_496 kw_498 kw_499 kw_201 kw_497) hd_X_check ⟨rfl, rfl⟩ ⟨Nat.le_of_ble_eq_true rfl, Nat.le_of_ble_eq_true rfl⟩ 0 rfl rfl rfl rfl hl.1 rfl (Nat.le_of_ble_eq_true rfl) d_W_law_478 (fun r63 s64 H locs h hw => ?_)
      refine lv_aload_n hx hb d_W_law_481 rfl (lv_at hl 2 rfl) ?_
      refine zz_lawR (As := []) (rest := [.int r63]) cx hw (ct_M_check l D cI cZ cL aM h) (zz_gV kw_492 kw_494 kw_495 kw_301 kw_493) hd_M_check ⟨rfl, rfl⟩ ⟨Nat.le_of_ble_eq_true rfl, Nat.le_of_ble_eq_true rfl⟩ 0 rfl rfl rfl rfl hl.1 rfl (Nat.le_of_ble_eq_true rfl) d_W_law_482 (fun r65 s66 H locs h hw => ?_)
      refine lv_icmp_eq (tgt := 526) hx hb d_W_law_485 (by decide) (fun c67 => ?_) (fun c67 => ?_)
      · replace h := h.1 c67
        exact wk_W_law_526 cx hX hbl hkn38 x3 s64 s66 _ _ _ hw (lv_sub hl [0, 1, 2, 3] rfl) h
      · replace h := h.2 c67
        refine lv_iconst (v := 0) hx hb d_W_law_488 (by decide) ?_
        exact False.elim h
    · replace h := h.2.2.2.2.2.2.2.2.2.2.2.2.2.2.1 c_sw
      refine lv_tableIn (tgt := 490) hx hb d_W_law_52 (by rw [c_sw]; decide) (by rw [c_sw]; decide) (by rw [c_sw]; rfl) (by decide) ?_
      refine lv_aload_n hx hb d_W_law_490 rfl (lv_at hl 1 rfl) ?_
      refine lv_aload_n hx hb d_W_law_491 rfl (lv_at hl 0 rfl) ?_
      refine lv_iload_n hx hb d_W_law_492 rfl (lv_at hl 3 rfl) ?_
      refine lv_iconst (v := 1) hx hb d_W_law_493 (by decide) ?_
      refine lv_iadd hx hb d_W_law_494 ?_
      obtain ⟨hi, h⟩ := h
      refine va_sld hx hb hX hbl hbA hw.2.2 hi d_W_law_495 ?_
      refine zz_lawL (As := [.int (xs (x3 + 1).toNatClampNeg)]) (rest := []) cx hw (ct_X_alike l D cI cZ cL aC h) (zz_gV kw_504 kw_506 kw_507 kw_201 kw_505) hd_X_alike ⟨rfl, rfl⟩ ⟨Nat.le_of_ble_eq_true rfl, Nat.le_of_ble_eq_true rfl⟩ 0 rfl rfl rfl rfl hl.1 rfl (Nat.le_of_ble_eq_true rfl) d_W_law_496 (fun r68 s69 H locs h hw => ?_)
      refine lv_aload_n hx hb d_W_law_499 rfl (lv_at hl 2 rfl) ?_
      refine lv_aload_n hx hb d_W_law_500 rfl (lv_at hl 0 rfl) ?_
      refine lv_iload_n hx hb d_W_law_501 rfl (lv_at hl 3 rfl) ?_
      refine lv_iconst (v := 1) hx hb d_W_law_502 (by decide) ?_
      refine lv_iadd hx hb d_W_law_503 ?_
      obtain ⟨hi, h⟩ := h
      refine va_sld hx hb hX hbl hbA hw.2.2 hi d_W_law_504 ?_
      refine zz_lawR (As := [.int (xs (x3 + 1).toNatClampNeg)]) (rest := [.int r68]) cx hw (ct_M_alike l D cI cZ cL aM h) (zz_gV kw_500 kw_502 kw_503 kw_301 kw_501) hd_M_alike ⟨rfl, rfl⟩ ⟨Nat.le_of_ble_eq_true rfl, Nat.le_of_ble_eq_true rfl⟩ 0 rfl rfl rfl rfl hl.1 rfl (Nat.le_of_ble_eq_true rfl) d_W_law_505 (fun r70 s71 H locs h hw => ?_)
      refine lv_icmp_eq (tgt := 526) hx hb d_W_law_508 (by decide) (fun c72 => ?_) (fun c72 => ?_)
      · replace h := h.1 c72
        exact wk_W_law_526 cx hX hbl hkn38 x3 s69 s71 _ _ _ hw (lv_sub hl [0, 1, 2, 3] rfl) h
      · replace h := h.2 c72
        refine lv_iconst (v := 0) hx hb d_W_law_511 (by decide) ?_
        exact False.elim h
    · replace h := h.2.2.2.2.2.2.2.2.2.2.2.2.2.2.2.1 c_sw
      refine lv_tableIn (tgt := 513) hx hb d_W_law_52 (by rw [c_sw]; decide) (by rw [c_sw]; decide) (by rw [c_sw]; rfl) (by decide) ?_
      refine lv_aload_n hx hb d_W_law_513 rfl (lv_at hl 1 rfl) ?_
      refine zz_lawL (As := []) (rest := []) cx hw (ct_X_parts l D cI cZ cL aC h) (zz_gV kw_512 kw_514 kw_515 kw_201 kw_513) hd_X_parts ⟨rfl, rfl⟩ ⟨Nat.le_of_ble_eq_true rfl, Nat.le_of_ble_eq_true rfl⟩ 0 rfl rfl rfl rfl hl.1 rfl (Nat.le_of_ble_eq_true rfl) d_W_law_514 (fun r73 s74 H locs h hw => ?_)
      refine lv_aload_n hx hb d_W_law_517 rfl (lv_at hl 2 rfl) ?_
      refine zz_lawR (As := []) (rest := [.int r73]) cx hw (ct_M_parts l D cI cZ cL aM h) (zz_gV kw_508 kw_510 kw_511 kw_301 kw_509) hd_M_parts ⟨rfl, rfl⟩ ⟨Nat.le_of_ble_eq_true rfl, Nat.le_of_ble_eq_true rfl⟩ 0 rfl rfl rfl rfl hl.1 rfl (Nat.le_of_ble_eq_true rfl) d_W_law_518 (fun r75 s76 H locs h hw => ?_)
      refine lv_icmp_eq (tgt := 526) hx hb d_W_law_521 (by decide) (fun c77 => ?_) (fun c77 => ?_)
      · replace h := h.1 c77
        exact wk_W_law_526 cx hX hbl hkn38 x3 s74 s76 _ _ _ hw (lv_sub hl [0, 1, 2, 3] rfl) h
      · replace h := h.2 c77
        refine lv_iconst (v := 0) hx hb d_W_law_524 (by decide) ?_
        exact False.elim h
    · replace h := h.2.2.2.2.2.2.2.2.2.2.2.2.2.2.2.2 c_sw
      refine lv_tableOut (tgt := 526) hx hb d_W_law_52 c_sw (by decide) ?_
      exact wk_W_law_526 cx hX hbl hkn38 x3 uC uM _ _ _ hw (lv_sub hl [0, 1, 2, 3] rfl) h
set_option maxRecDepth 100000 in
set_option maxHeartbeats 4000000 in
theorem wk_W_law_38_f {p : Program} {l : Launch} {e : Env} {s : State} {m : MethodId} {below : List Frame} {meth : Method} {c : Code} {D : va_G} {cI cZ cL : ClassId} {aC aM : Nat → Nat} {b L : Nat} {xs : Nat → Int32} (cx : zz_Cx p s m #[Value.ref b] meth c "GridFillsLaw" b_W_law 4 (some .boolean) D zz_cl (zz_ty cI cZ cL) (fun q : Nat => s.heap.size ≤ q)) (hX : va_X b L xs s s.heap) (hbl : b < s.heap.size) : ∀ n : Nat, ∀ (x3 : Int32) (uC uM : zz_St) (H : Heap) (locs : List Loc) (ls : Array Slot), zz_Wd D zz_cl (fun q : Nat => s.heap.size ≤ q) s.heap H locs (gw_C cI cZ cL aC uC ++ gw_M cI cZ cL aM uM) → lv_has ls 4 [(0, .ref b), (1, .ref (aC 0)), (2, .ref (aM 0)), (3, .int x3)] → wp_W_law_38_f L xs n x3 uC uM → W p l e room_1 s m #[Value.ref b] below meth c H locs 600000 7302250 (lw_Z below #[Value.ref b] s) (F0 m 38 ls []) := by
  intro n
  induction n with
  | zero => exact fun _ _ _ _ _ _ _ _ h => False.elim h
  | succ n ih => exact wk_W_law_38 cx hX hbl ih
