def ft_X : u_T := fun k => match k with
  | 0 => ("GridFills", "grid", "LGridFills$Grid;", true)
  | 1 => ("GridFills", "list", "LGridFills$WordList;", true)
  | 2 => ("GridFills", "found", "LGridFills$Filling;", true)
  | _ => ("GridFills", "search", "LGridFills$Search;", true)
def ty_X : Nat → FieldType := fun k => match k with
  | 0 => .object "GridFills$Grid"
  | 1 => .object "GridFills$WordList"
  | 2 => .object "GridFills$Filling"
  | _ => .object "GridFills$Search"
theorem nm_X : ∀ a, a < 4 → ∀ b, b < 4 → a ≠ b → (ft_X a).2.1 ≠ (ft_X b).2.1 := by decide +kernel
theorem tk_X : ∀ k, k < 4 → parseFieldDescriptor (ft_X k).2.2.1 = some (ty_X k) := by decide +kernel
theorem in_X : ∀ w ∈ u_ws "GridFills" ft_X 4, w ∈ zz_tbl := by decide +kernel
def ft_G : u_T := fun k => match k with
  | 0 => ("GridFills$Grid", "width", "I", true)
  | 1 => ("GridFills$Grid", "height", "I", true)
  | 2 => ("GridFills$Grid", "cellCount", "I", true)
  | 3 => ("GridFills$Grid", "isBlack", "[Z", true)
  | 4 => ("GridFills$Grid", "givenAt", "[I", true)
  | 5 => ("GridFills$Grid", "slotCount", "I", false)
  | 6 => ("GridFills$Grid", "firstOf", "[I", true)
  | 7 => ("GridFills$Grid", "lengthOf", "[I", true)
  | 8 => ("GridFills$Grid", "directionOf", "[I", true)
  | 9 => ("GridFills$Grid", "themeOf", "[I", true)
  | 10 => ("GridFills$Grid", "slotThrough", "[I", true)
  | 11 => ("GridFills$Grid", "placeThrough", "[I", true)
  | _ => ("GridFills$Grid", "partOf", "[I", true)
def ty_G : Nat → FieldType := fun k => match k with
  | 0 => .int
  | 1 => .int
  | 2 => .int
  | 3 => .array .boolean
  | 4 => .array .int
  | 5 => .int
  | 6 => .array .int
  | 7 => .array .int
  | 8 => .array .int
  | 9 => .array .int
  | 10 => .array .int
  | 11 => .array .int
  | _ => .array .int
theorem nm_G : ∀ a, a < 13 → ∀ b, b < 13 → a ≠ b → (ft_G a).2.1 ≠ (ft_G b).2.1 := by decide +kernel
theorem tk_G : ∀ k, k < 13 → parseFieldDescriptor (ft_G k).2.2.1 = some (ty_G k) := by decide +kernel
theorem in_G : ∀ w ∈ u_ws "GridFills$Grid" ft_G 13, w ∈ zz_tbl := by decide +kernel
def ft_L : u_T := fun k => match k with
  | 0 => ("GridFills$WordList", "count", "I", false)
  | 1 => ("GridFills$WordList", "lengthOf", "[I", true)
  | 2 => ("GridFills$WordList", "scoreOf", "[I", true)
  | 3 => ("GridFills$WordList", "wordOfRank", "[I", true)
  | 4 => ("GridFills$WordList", "rankOf", "[I", true)
  | 5 => ("GridFills$WordList", "lowOfLength", "[J", true)
  | 6 => ("GridFills$WordList", "highOfLength", "[J", true)
  | 7 => ("GridFills$WordList", "lowOfKey", "[J", true)
  | 8 => ("GridFills$WordList", "highOfKey", "[J", true)
  | 9 => ("GridFills$WordList", "letters", "[I", true)
  | 10 => ("GridFills$WordList", "collected", "[I", true)
  | _ => ("GridFills$WordList", "collectedCount", "I", false)
def ty_L : Nat → FieldType := fun k => match k with
  | 0 => .int
  | 1 => .array .int
  | 2 => .array .int
  | 3 => .array .int
  | 4 => .array .int
  | 5 => .array .long
  | 6 => .array .long
  | 7 => .array .long
  | 8 => .array .long
  | 9 => .array .int
  | 10 => .array .int
  | _ => .int
theorem nm_L : ∀ a, a < 12 → ∀ b, b < 12 → a ≠ b → (ft_L a).2.1 ≠ (ft_L b).2.1 := by decide +kernel
theorem tk_L : ∀ k, k < 12 → parseFieldDescriptor (ft_L k).2.2.1 = some (ty_L k) := by decide +kernel
theorem in_L : ∀ w ∈ u_ws "GridFills$WordList" ft_L 12, w ∈ zz_tbl := by decide +kernel
def ft_F : u_T := fun k => match k with
  | 0 => ("GridFills$Filling", "grid", "LGridFills$Grid;", true)
  | 1 => ("GridFills$Filling", "list", "LGridFills$WordList;", true)
  | 2 => ("GridFills$Filling", "wordIn", "[I", true)
  | _ => ("GridFills$Filling", "total", "I", false)
def ty_F : Nat → FieldType := fun k => match k with
  | 0 => .object "GridFills$Grid"
  | 1 => .object "GridFills$WordList"
  | 2 => .array .int
  | _ => .int
theorem nm_F : ∀ a, a < 4 → ∀ b, b < 4 → a ≠ b → (ft_F a).2.1 ≠ (ft_F b).2.1 := by decide +kernel
theorem tk_F : ∀ k, k < 4 → parseFieldDescriptor (ft_F k).2.2.1 = some (ty_F k) := by decide +kernel
theorem in_F : ∀ w ∈ u_ws "GridFills$Filling" ft_F 4, w ∈ zz_tbl := by decide +kernel
def ft_S : u_T := fun k => match k with
  | 0 => ("GridFills$Search", "grid", "LGridFills$Grid;", true)
  | 1 => ("GridFills$Search", "list", "LGridFills$WordList;", true)
  | 2 => ("GridFills$Search", "found", "LGridFills$Filling;", true)
  | 3 => ("GridFills$Search", "low", "[J", true)
  | 4 => ("GridFills$Search", "high", "[J", true)
  | 5 => ("GridFills$Search", "wordIn", "[I", true)
  | 6 => ("GridFills$Search", "usedLow", "J", false)
  | 7 => ("GridFills$Search", "usedHigh", "J", false)
  | 8 => ("GridFills$Search", "sum", "I", false)
  | 9 => ("GridFills$Search", "mostSteps", "I", false)
  | 10 => ("GridFills$Search", "wantsAll", "Z", false)
  | 11 => ("GridFills$Search", "ranOut", "Z", false)
  | 12 => ("GridFills$Search", "stepsMade", "I", false)
  | _ => ("GridFills$Search", "fillings", "I", false)
def ty_S : Nat → FieldType := fun k => match k with
  | 0 => .object "GridFills$Grid"
  | 1 => .object "GridFills$WordList"
  | 2 => .object "GridFills$Filling"
  | 3 => .array .long
  | 4 => .array .long
  | 5 => .array .int
  | 6 => .long
  | 7 => .long
  | 8 => .int
  | 9 => .int
  | 10 => .boolean
  | 11 => .boolean
  | 12 => .int
  | _ => .int
theorem nm_S : ∀ a, a < 14 → ∀ b, b < 14 → a ≠ b → (ft_S a).2.1 ≠ (ft_S b).2.1 := by decide +kernel
theorem tk_S : ∀ k, k < 14 → parseFieldDescriptor (ft_S k).2.2.1 = some (ty_S k) := by decide +kernel
theorem in_S : ∀ w ∈ u_ws "GridFills$Search" ft_S 14, w ∈ zz_tbl := by decide +kernel
def ft_M : u_T := fun k => match k with
  | 0 => ("GridFillsModel", "thrown", "I", false)
  | 1 => ("GridFillsModel", "width", "I", true)
  | 2 => ("GridFillsModel", "height", "I", true)
  | 3 => ("GridFillsModel", "isBlack", "[Z", true)
  | 4 => ("GridFillsModel", "givens", "[I", true)
  | 5 => ("GridFillsModel", "collected", "I", false)
  | 6 => ("GridFillsModel", "row", "[I", true)
  | 7 => ("GridFillsModel", "words", "I", false)
  | 8 => ("GridFillsModel", "lengths", "[I", true)
  | 9 => ("GridFillsModel", "letters", "[I", true)
  | 10 => ("GridFillsModel", "scores", "[I", true)
  | 11 => ("GridFillsModel", "slots", "I", false)
  | 12 => ("GridFillsModel", "begins", "[I", true)
  | 13 => ("GridFillsModel", "sizes", "[I", true)
  | 14 => ("GridFillsModel", "ways", "[I", true)
  | 15 => ("GridFillsModel", "themes", "[I", true)
  | 16 => ("GridFillsModel", "rightOnes", "I", false)
  | 17 => ("GridFillsModel", "now", "[I", true)
  | 18 => ("GridFillsModel", "found", "[I", true)
  | 19 => ("GridFillsModel", "isFound", "Z", false)
  | 20 => ("GridFillsModel", "steps", "I", false)
  | 21 => ("GridFillsModel", "many", "I", false)
  | 22 => ("GridFillsModel", "cells", "[I", true)
  | 23 => ("GridFillsModel", "slotAt", "[I", true)
  | 24 => ("GridFillsModel", "manyAt", "[I", true)
  | 25 => ("GridFillsModel", "triedAt", "[I", true)
  | 26 => ("GridFillsModel", "choices", "[I", true)
  | _ => ("GridFillsModel", "seen", "[Z", true)
def ty_M : Nat → FieldType := fun k => match k with
  | 0 => .int
  | 1 => .int
  | 2 => .int
  | 3 => .array .boolean
  | 4 => .array .int
  | 5 => .int
  | 6 => .array .int
  | 7 => .int
  | 8 => .array .int
  | 9 => .array .int
  | 10 => .array .int
  | 11 => .int
  | 12 => .array .int
  | 13 => .array .int
  | 14 => .array .int
  | 15 => .array .int
  | 16 => .int
  | 17 => .array .int
  | 18 => .array .int
  | 19 => .boolean
  | 20 => .int
  | 21 => .int
  | 22 => .array .int
  | 23 => .array .int
  | 24 => .array .int
  | 25 => .array .int
  | 26 => .array .int
  | _ => .array .boolean
theorem nm_M : ∀ a, a < 28 → ∀ b, b < 28 → a ≠ b → (ft_M a).2.1 ≠ (ft_M b).2.1 := by decide +kernel
theorem tk_M : ∀ k, k < 28 → parseFieldDescriptor (ft_M k).2.2.1 = some (ty_M k) := by decide +kernel
theorem in_M : ∀ w ∈ u_ws "GridFillsModel" ft_M 28, w ∈ zz_tbl := by decide +kernel
abbrev zz_cl : List vw_C := [("GridFills", ft_X, 4), ("GridFills$Grid", ft_G, 13), ("GridFills$WordList", ft_L, 12), ("GridFills$Filling", ft_F, 4), ("GridFills$Search", ft_S, 14), ("GridFillsModel", ft_M, 28)]
abbrev zz_ty (cI cZ cL : ClassId) : List (ClassId × FieldType) := [(cI, .int), (cZ, .boolean), (cL, .long)]
def gw_C (cI cZ cL : ClassId) (a : Nat → Nat) (u : zz_St) : va_W :=
  [(a 0, .inr (0, [.ref (a 1), .ref (a 2), .ref (a 3), .ref (a 4)])),
   (a 1, .inr (1, [.int (sg_i u 0), .int (sg_i u 1), .int (sg_i u 2), .ref (a 5), .ref (a 6), .int (sg_i u 3), .ref (a 7), .ref (a 8), .ref (a 9), .ref (a 10), .ref (a 11), .ref (a 12), .ref (a 13)])),
   (a 2, .inr (2, [.int (sg_i u 4), .ref (a 14), .ref (a 15), .ref (a 16), .ref (a 17), .ref (a 22), .ref (a 23), .ref (a 24), .ref (a 25), .ref (a 18), .ref (a 19), .int (sg_i u 5)])),
   (a 3, .inr (3, [.ref (a 1), .ref (a 2), .ref (a 20), .int (sg_i u 6)])),
   (a 4, .inr (4, [.ref (a 1), .ref (a 2), .ref (a 3), .ref (a 26), .ref (a 27), .ref (a 21), .long (sg_l u 0), .long (sg_l u 1), .int (sg_i u 7), .int (sg_i u 8), .int (sg_i u 9), .int (sg_i u 10), .int (sg_i u 11), .int (sg_i u 12)])),
   (a 5, .inl (cZ, 36, .inl (sg_a u 0))),
   (a 6, .inl (cI, 36, .inl (sg_a u 1))),
   (a 7, .inl (cI, 24, .inl (sg_a u 2))),
   (a 8, .inl (cI, 24, .inl (sg_a u 3))),
   (a 9, .inl (cI, 24, .inl (sg_a u 4))),
   (a 10, .inl (cI, 24, .inl (sg_a u 5))),
   (a 11, .inl (cI, 72, .inl (sg_a u 6))),
   (a 12, .inl (cI, 72, .inl (sg_a u 7))),
   (a 13, .inl (cI, 36, .inl (sg_a u 8))),
   (a 14, .inl (cI, 80, .inl (sg_a u 9))),
   (a 15, .inl (cI, 80, .inl (sg_a u 10))),
   (a 16, .inl (cI, 80, .inl (sg_a u 11))),
   (a 17, .inl (cI, 80, .inl (sg_a u 12))),
   (a 18, .inl (cI, 480, .inl (sg_a u 13))),
   (a 19, .inl (cI, 6, .inl (sg_a u 14))),
   (a 20, .inl (cI, 24, .inl (sg_a u 15))),
   (a 21, .inl (cI, 24, .inl (sg_a u 16))),
   (a 22, .inl (cL, 7, .inr (.inl (sg_b u 0)))),
   (a 23, .inl (cL, 7, .inr (.inl (sg_b u 1)))),
   (a 24, .inl (cL, 156, .inr (.inl (sg_b u 2)))),
   (a 25, .inl (cL, 156, .inr (.inl (sg_b u 3)))),
   (a 26, .inl (cL, 600, .inr (.inl (sg_b u 4)))),
   (a 27, .inl (cL, 600, .inr (.inl (sg_b u 5))))]
def gw_G (cI cZ cL : ClassId) (a : Nat → Nat) (u : zz_St) : va_W :=
  [(a 0, .inr (1, [.int (sg_i u 0), .int (sg_i u 1), .int (sg_i u 2), .ref (a 1), .ref (a 2), .int (sg_i u 3), .ref (a 3), .ref (a 4), .ref (a 5), .ref (a 6), .ref (a 7), .ref (a 8), .ref (a 9)])),
   (a 1, .inl (cZ, 36, .inl (sg_a u 0))),
   (a 2, .inl (cI, 36, .inl (sg_a u 1))),
   (a 3, .inl (cI, 24, .inl (sg_a u 2))),
   (a 4, .inl (cI, 24, .inl (sg_a u 3))),
   (a 5, .inl (cI, 24, .inl (sg_a u 4))),
   (a 6, .inl (cI, 24, .inl (sg_a u 5))),
   (a 7, .inl (cI, 72, .inl (sg_a u 6))),
   (a 8, .inl (cI, 72, .inl (sg_a u 7))),
   (a 9, .inl (cI, 36, .inl (sg_a u 8)))]
def gw_M (cI cZ cL : ClassId) (a : Nat → Nat) (u : zz_St) : va_W :=
  [(a 0, .inr (5, [.int (sg_i u 0), .int (sg_i u 1), .int (sg_i u 2), .ref (a 1), .ref (a 2), .int (sg_i u 3), .ref (a 3), .int (sg_i u 4), .ref (a 4), .ref (a 5), .ref (a 6), .int (sg_i u 5), .ref (a 7), .ref (a 8), .ref (a 9), .ref (a 10), .int (sg_i u 6), .ref (a 11), .ref (a 12), .int (sg_i u 7), .int (sg_i u 8), .int (sg_i u 9), .ref (a 13), .ref (a 14), .ref (a 15), .ref (a 16), .ref (a 17), .ref (a 18)])),
   (a 1, .inl (cZ, 36, .inl (sg_a u 0))),
   (a 2, .inl (cI, 36, .inl (sg_a u 1))),
   (a 3, .inl (cI, 6, .inl (sg_a u 2))),
   (a 4, .inl (cI, 80, .inl (sg_a u 3))),
   (a 5, .inl (cI, 480, .inl (sg_a u 4))),
   (a 6, .inl (cI, 80, .inl (sg_a u 5))),
   (a 7, .inl (cI, 36, .inl (sg_a u 6))),
   (a 8, .inl (cI, 36, .inl (sg_a u 7))),
   (a 9, .inl (cI, 36, .inl (sg_a u 8))),
   (a 10, .inl (cI, 36, .inl (sg_a u 9))),
   (a 11, .inl (cI, 36, .inl (sg_a u 10))),
   (a 12, .inl (cI, 36, .inl (sg_a u 11))),
   (a 13, .inl (cI, 36, .inl (sg_a u 12))),
   (a 14, .inl (cI, 37, .inl (sg_a u 13))),
   (a 15, .inl (cI, 37, .inl (sg_a u 14))),
   (a 16, .inl (cI, 37, .inl (sg_a u 15))),
   (a 17, .inl (cI, 2960, .inl (sg_a u 16))),
   (a 18, .inl (cZ, 36, .inl (sg_a u 17)))]
def y_JL_bitCount : MethodName := ⟨"java/lang/Long", "bitCount", "(J)I"⟩
abbrev b_JL_bitCount : ByteArray := prog_8_method_50_code
theorem hd_JL_bitCount : y_JL_bitCount.cls ≠ "java/lang/invoke/MethodHandle" ∧ y_JL_bitCount.cls ≠ "java/lang/invoke/VarHandle" ∧ (parseMethodDescriptor y_JL_bitCount.desc).map (fun d => d.parameters.length) = some 1 := by decide +kernel
def y_JA_fillI : MethodName := ⟨"java/util/Arrays", "fill", "([II)V"⟩
abbrev b_JA_fillI : ByteArray := prog_11_method_103_code
theorem hd_JA_fillI : y_JA_fillI.cls ≠ "java/lang/invoke/MethodHandle" ∧ y_JA_fillI.cls ≠ "java/lang/invoke/VarHandle" ∧ (parseMethodDescriptor y_JA_fillI.desc).map (fun d => d.parameters.length) = some 2 := by decide +kernel
def y_JA_fillJ : MethodName := ⟨"java/util/Arrays", "fill", "([JJ)V"⟩
abbrev b_JA_fillJ : ByteArray := prog_11_method_101_code
theorem hd_JA_fillJ : y_JA_fillJ.cls ≠ "java/lang/invoke/MethodHandle" ∧ y_JA_fillJ.cls ≠ "java/lang/invoke/VarHandle" ∧ (parseMethodDescriptor y_JA_fillJ.desc).map (fun d => d.parameters.length) = some 2 := by decide +kernel
def y_G_cellAt : MethodName := ⟨"GridFills$Grid", "cellAt", "(II)I"⟩
abbrev b_G_cellAt : ByteArray := prog_3_method_2_code
theorem hd_G_cellAt : y_G_cellAt.cls ≠ "java/lang/invoke/MethodHandle" ∧ y_G_cellAt.cls ≠ "java/lang/invoke/VarHandle" ∧ (parseMethodDescriptor y_G_cellAt.desc).map (fun d => d.parameters.length) = some 2 := by decide +kernel
def y_G_hasSlot : MethodName := ⟨"GridFills$Grid", "hasSlot", "(I)Z"⟩
abbrev b_G_hasSlot : ByteArray := prog_3_method_3_code
theorem hd_G_hasSlot : y_G_hasSlot.cls ≠ "java/lang/invoke/MethodHandle" ∧ y_G_hasSlot.cls ≠ "java/lang/invoke/VarHandle" ∧ (parseMethodDescriptor y_G_hasSlot.desc).map (fun d => d.parameters.length) = some 1 := by decide +kernel
def y_G_cellOf : MethodName := ⟨"GridFills$Grid", "cellOf", "(II)I"⟩
abbrev b_G_cellOf : ByteArray := prog_3_method_4_code
theorem hd_G_cellOf : y_G_cellOf.cls ≠ "java/lang/invoke/MethodHandle" ∧ y_G_cellOf.cls ≠ "java/lang/invoke/VarHandle" ∧ (parseMethodDescriptor y_G_cellOf.desc).map (fun d => d.parameters.length) = some 2 := by decide +kernel
def y_G_slotAt : MethodName := ⟨"GridFills$Grid", "slotAt", "(II)I"⟩
abbrev b_G_slotAt : ByteArray := prog_3_method_5_code
theorem hd_G_slotAt : y_G_slotAt.cls ≠ "java/lang/invoke/MethodHandle" ∧ y_G_slotAt.cls ≠ "java/lang/invoke/VarHandle" ∧ (parseMethodDescriptor y_G_slotAt.desc).map (fun d => d.parameters.length) = some 2 := by decide +kernel
def y_G_placeAt : MethodName := ⟨"GridFills$Grid", "placeAt", "(II)I"⟩
abbrev b_G_placeAt : ByteArray := prog_3_method_6_code
theorem hd_G_placeAt : y_G_placeAt.cls ≠ "java/lang/invoke/MethodHandle" ∧ y_G_placeAt.cls ≠ "java/lang/invoke/VarHandle" ∧ (parseMethodDescriptor y_G_placeAt.desc).map (fun d => d.parameters.length) = some 2 := by decide +kernel
def y_G_isOpen : MethodName := ⟨"GridFills$Grid", "isOpen", "(II)Z"⟩
abbrev b_G_isOpen : ByteArray := prog_3_method_11_code
theorem hd_G_isOpen : y_G_isOpen.cls ≠ "java/lang/invoke/MethodHandle" ∧ y_G_isOpen.cls ≠ "java/lang/invoke/VarHandle" ∧ (parseMethodDescriptor y_G_isOpen.desc).map (fun d => d.parameters.length) = some 2 := by decide +kernel
def y_G_markCells : MethodName := ⟨"GridFills$Grid", "markCells", "(I)V"⟩
abbrev b_G_markCells : ByteArray := prog_3_method_10_code
theorem hd_G_markCells : y_G_markCells.cls ≠ "java/lang/invoke/MethodHandle" ∧ y_G_markCells.cls ≠ "java/lang/invoke/VarHandle" ∧ (parseMethodDescriptor y_G_markCells.desc).map (fun d => d.parameters.length) = some 1 := by decide +kernel
def y_G_addSlotFrom : MethodName := ⟨"GridFills$Grid", "addSlotFrom", "(III)V"⟩
abbrev b_G_addSlotFrom : ByteArray := prog_3_method_9_code
theorem hd_G_addSlotFrom : y_G_addSlotFrom.cls ≠ "java/lang/invoke/MethodHandle" ∧ y_G_addSlotFrom.cls ≠ "java/lang/invoke/VarHandle" ∧ (parseMethodDescriptor y_G_addSlotFrom.desc).map (fun d => d.parameters.length) = some 3 := by decide +kernel
def y_G_findSlots : MethodName := ⟨"GridFills$Grid", "findSlots", "()V"⟩
abbrev b_G_findSlots : ByteArray := prog_3_method_8_code
theorem hd_G_findSlots : y_G_findSlots.cls ≠ "java/lang/invoke/MethodHandle" ∧ y_G_findSlots.cls ≠ "java/lang/invoke/VarHandle" ∧ (parseMethodDescriptor y_G_findSlots.desc).map (fun d => d.parameters.length) = some 0 := by decide +kernel
def y_G_paint : MethodName := ⟨"GridFills$Grid", "paint", "(IZ)V"⟩
abbrev b_G_paint : ByteArray := prog_3_method_7_code
theorem hd_G_paint : y_G_paint.cls ≠ "java/lang/invoke/MethodHandle" ∧ y_G_paint.cls ≠ "java/lang/invoke/VarHandle" ∧ (parseMethodDescriptor y_G_paint.desc).map (fun d => d.parameters.length) = some 2 := by decide +kernel
def y_G_imageIsOpen : MethodName := ⟨"GridFills$Grid", "imageIsOpen", "(III)Z"⟩
abbrev b_G_imageIsOpen : ByteArray := prog_3_method_13_code
theorem hd_G_imageIsOpen : y_G_imageIsOpen.cls ≠ "java/lang/invoke/MethodHandle" ∧ y_G_imageIsOpen.cls ≠ "java/lang/invoke/VarHandle" ∧ (parseMethodDescriptor y_G_imageIsOpen.desc).map (fun d => d.parameters.length) = some 3 := by decide +kernel
def y_G_looksTheSame : MethodName := ⟨"GridFills$Grid", "looksTheSame", "(I)Z"⟩
abbrev b_G_looksTheSame : ByteArray := prog_3_method_12_code
theorem hd_G_looksTheSame : y_G_looksTheSame.cls ≠ "java/lang/invoke/MethodHandle" ∧ y_G_looksTheSame.cls ≠ "java/lang/invoke/VarHandle" ∧ (parseMethodDescriptor y_G_looksTheSame.desc).map (fun d => d.parameters.length) = some 1 := by decide +kernel
def y_G_join : MethodName := ⟨"GridFills$Grid", "join", "(IIII)Z"⟩
abbrev b_G_join : ByteArray := prog_3_method_15_code
theorem hd_G_join : y_G_join.cls ≠ "java/lang/invoke/MethodHandle" ∧ y_G_join.cls ≠ "java/lang/invoke/VarHandle" ∧ (parseMethodDescriptor y_G_join.desc).map (fun d => d.parameters.length) = some 4 := by decide +kernel
def y_G_countParts : MethodName := ⟨"GridFills$Grid", "countParts", "()I"⟩
abbrev b_G_countParts : ByteArray := prog_3_method_14_code
theorem hd_G_countParts : y_G_countParts.cls ≠ "java/lang/invoke/MethodHandle" ∧ y_G_countParts.cls ≠ "java/lang/invoke/VarHandle" ∧ (parseMethodDescriptor y_G_countParts.desc).map (fun d => d.parameters.length) = some 0 := by decide +kernel
def y_L_lowBit : MethodName := ⟨"GridFills$WordList", "lowBit", "(I)J"⟩
abbrev b_L_lowBit : ByteArray := prog_5_method_2_code
theorem hd_L_lowBit : y_L_lowBit.cls ≠ "java/lang/invoke/MethodHandle" ∧ y_L_lowBit.cls ≠ "java/lang/invoke/VarHandle" ∧ (parseMethodDescriptor y_L_lowBit.desc).map (fun d => d.parameters.length) = some 1 := by decide +kernel
def y_L_highBit : MethodName := ⟨"GridFills$WordList", "highBit", "(I)J"⟩
abbrev b_L_highBit : ByteArray := prog_5_method_3_code
theorem hd_L_highBit : y_L_highBit.cls ≠ "java/lang/invoke/MethodHandle" ∧ y_L_highBit.cls ≠ "java/lang/invoke/VarHandle" ∧ (parseMethodDescriptor y_L_highBit.desc).map (fun d => d.parameters.length) = some 1 := by decide +kernel
def y_L_keyOf : MethodName := ⟨"GridFills$WordList", "keyOf", "(II)I"⟩
abbrev b_L_keyOf : ByteArray := prog_5_method_4_code
theorem hd_L_keyOf : y_L_keyOf.cls ≠ "java/lang/invoke/MethodHandle" ∧ y_L_keyOf.cls ≠ "java/lang/invoke/VarHandle" ∧ (parseMethodDescriptor y_L_keyOf.desc).map (fun d => d.parameters.length) = some 2 := by decide +kernel
def y_L_hasWord : MethodName := ⟨"GridFills$WordList", "hasWord", "(I)Z"⟩
abbrev b_L_hasWord : ByteArray := prog_5_method_5_code
theorem hd_L_hasWord : y_L_hasWord.cls ≠ "java/lang/invoke/MethodHandle" ∧ y_L_hasWord.cls ≠ "java/lang/invoke/VarHandle" ∧ (parseMethodDescriptor y_L_hasWord.desc).map (fun d => d.parameters.length) = some 1 := by decide +kernel
def y_L_letterOf : MethodName := ⟨"GridFills$WordList", "letterOf", "(II)I"⟩
abbrev b_L_letterOf : ByteArray := prog_5_method_6_code
theorem hd_L_letterOf : y_L_letterOf.cls ≠ "java/lang/invoke/MethodHandle" ∧ y_L_letterOf.cls ≠ "java/lang/invoke/VarHandle" ∧ (parseMethodDescriptor y_L_letterOf.desc).map (fun d => d.parameters.length) = some 2 := by decide +kernel
def y_L_collect : MethodName := ⟨"GridFills$WordList", "collect", "(I)Z"⟩
abbrev b_L_collect : ByteArray := prog_5_method_7_code
theorem hd_L_collect : y_L_collect.cls ≠ "java/lang/invoke/MethodHandle" ∧ y_L_collect.cls ≠ "java/lang/invoke/VarHandle" ∧ (parseMethodDescriptor y_L_collect.desc).map (fun d => d.parameters.length) = some 1 := by decide +kernel
def y_L_dropCollected : MethodName := ⟨"GridFills$WordList", "dropCollected", "()V"⟩
abbrev b_L_dropCollected : ByteArray := prog_5_method_8_code
theorem hd_L_dropCollected : y_L_dropCollected.cls ≠ "java/lang/invoke/MethodHandle" ∧ y_L_dropCollected.cls ≠ "java/lang/invoke/VarHandle" ∧ (parseMethodDescriptor y_L_dropCollected.desc).map (fun d => d.parameters.length) = some 0 := by decide +kernel
def y_L_isCollected : MethodName := ⟨"GridFills$WordList", "isCollected", "(I)Z"⟩
abbrev b_L_isCollected : ByteArray := prog_5_method_11_code
theorem hd_L_isCollected : y_L_isCollected.cls ≠ "java/lang/invoke/MethodHandle" ∧ y_L_isCollected.cls ≠ "java/lang/invoke/VarHandle" ∧ (parseMethodDescriptor y_L_isCollected.desc).map (fun d => d.parameters.length) = some 1 := by decide +kernel
def y_L_isThere : MethodName := ⟨"GridFills$WordList", "isThere", "()Z"⟩
abbrev b_L_isThere : ByteArray := prog_5_method_10_code
theorem hd_L_isThere : y_L_isThere.cls ≠ "java/lang/invoke/MethodHandle" ∧ y_L_isThere.cls ≠ "java/lang/invoke/VarHandle" ∧ (parseMethodDescriptor y_L_isThere.desc).map (fun d => d.parameters.length) = some 0 := by decide +kernel
def y_L_rank : MethodName := ⟨"GridFills$WordList", "rank", "(I)V"⟩
abbrev b_L_rank : ByteArray := prog_5_method_12_code
theorem hd_L_rank : y_L_rank.cls ≠ "java/lang/invoke/MethodHandle" ∧ y_L_rank.cls ≠ "java/lang/invoke/VarHandle" ∧ (parseMethodDescriptor y_L_rank.desc).map (fun d => d.parameters.length) = some 1 := by decide +kernel
def y_L_sortIntoSets : MethodName := ⟨"GridFills$WordList", "sortIntoSets", "()V"⟩
abbrev b_L_sortIntoSets : ByteArray := prog_5_method_13_code
theorem hd_L_sortIntoSets : y_L_sortIntoSets.cls ≠ "java/lang/invoke/MethodHandle" ∧ y_L_sortIntoSets.cls ≠ "java/lang/invoke/VarHandle" ∧ (parseMethodDescriptor y_L_sortIntoSets.desc).map (fun d => d.parameters.length) = some 0 := by decide +kernel
def y_L_wordFromCollected : MethodName := ⟨"GridFills$WordList", "wordFromCollected", "(I)I"⟩
abbrev b_L_wordFromCollected : ByteArray := prog_5_method_9_code
theorem hd_L_wordFromCollected : y_L_wordFromCollected.cls ≠ "java/lang/invoke/MethodHandle" ∧ y_L_wordFromCollected.cls ≠ "java/lang/invoke/VarHandle" ∧ (parseMethodDescriptor y_L_wordFromCollected.desc).map (fun d => d.parameters.length) = some 1 := by decide +kernel
def y_F_forget : MethodName := ⟨"GridFills$Filling", "forget", "()V"⟩
abbrev b_F_forget : ByteArray := prog_2_method_2_code
theorem hd_F_forget : y_F_forget.cls ≠ "java/lang/invoke/MethodHandle" ∧ y_F_forget.cls ≠ "java/lang/invoke/VarHandle" ∧ (parseMethodDescriptor y_F_forget.desc).map (fun d => d.parameters.length) = some 0 := by decide +kernel
def y_F_keep : MethodName := ⟨"GridFills$Filling", "keep", "([II)V"⟩
abbrev b_F_keep : ByteArray := prog_2_method_3_code
theorem hd_F_keep : y_F_keep.cls ≠ "java/lang/invoke/MethodHandle" ∧ y_F_keep.cls ≠ "java/lang/invoke/VarHandle" ∧ (parseMethodDescriptor y_F_keep.desc).map (fun d => d.parameters.length) = some 2 := by decide +kernel
def y_F_wordOf : MethodName := ⟨"GridFills$Filling", "wordOf", "(I)I"⟩
abbrev b_F_wordOf : ByteArray := prog_2_method_4_code
theorem hd_F_wordOf : y_F_wordOf.cls ≠ "java/lang/invoke/MethodHandle" ∧ y_F_wordOf.cls ≠ "java/lang/invoke/VarHandle" ∧ (parseMethodDescriptor y_F_wordOf.desc).map (fun d => d.parameters.length) = some 1 := by decide +kernel
def y_F_letterBy : MethodName := ⟨"GridFills$Filling", "letterBy", "(II)I"⟩
abbrev b_F_letterBy : ByteArray := prog_2_method_6_code
theorem hd_F_letterBy : y_F_letterBy.cls ≠ "java/lang/invoke/MethodHandle" ∧ y_F_letterBy.cls ≠ "java/lang/invoke/VarHandle" ∧ (parseMethodDescriptor y_F_letterBy.desc).map (fun d => d.parameters.length) = some 2 := by decide +kernel
def y_F_letterAt : MethodName := ⟨"GridFills$Filling", "letterAt", "(I)I"⟩
abbrev b_F_letterAt : ByteArray := prog_2_method_5_code
theorem hd_F_letterAt : y_F_letterAt.cls ≠ "java/lang/invoke/MethodHandle" ∧ y_F_letterAt.cls ≠ "java/lang/invoke/VarHandle" ∧ (parseMethodDescriptor y_F_letterAt.desc).map (fun d => d.parameters.length) = some 1 := by decide +kernel
def y_F_agrees : MethodName := ⟨"GridFills$Filling", "agrees", "(II)Z"⟩
abbrev b_F_agrees : ByteArray := prog_2_method_9_code
theorem hd_F_agrees : y_F_agrees.cls ≠ "java/lang/invoke/MethodHandle" ∧ y_F_agrees.cls ≠ "java/lang/invoke/VarHandle" ∧ (parseMethodDescriptor y_F_agrees.desc).map (fun d => d.parameters.length) = some 2 := by decide +kernel
def y_F_holds : MethodName := ⟨"GridFills$Filling", "holds", "(I)Z"⟩
abbrev b_F_holds : ByteArray := prog_2_method_8_code
theorem hd_F_holds : y_F_holds.cls ≠ "java/lang/invoke/MethodHandle" ∧ y_F_holds.cls ≠ "java/lang/invoke/VarHandle" ∧ (parseMethodDescriptor y_F_holds.desc).map (fun d => d.parameters.length) = some 1 := by decide +kernel
def y_F_firstFault : MethodName := ⟨"GridFills$Filling", "firstFault", "()I"⟩
abbrev b_F_firstFault : ByteArray := prog_2_method_7_code
theorem hd_F_firstFault : y_F_firstFault.cls ≠ "java/lang/invoke/MethodHandle" ∧ y_F_firstFault.cls ≠ "java/lang/invoke/VarHandle" ∧ (parseMethodDescriptor y_F_firstFault.desc).map (fun d => d.parameters.length) = some 0 := by decide +kernel
def y_S_narrow : MethodName := ⟨"GridFills$Search", "narrow", "(II)V"⟩
abbrev b_S_narrow : ByteArray := prog_4_method_6_code
theorem hd_S_narrow : y_S_narrow.cls ≠ "java/lang/invoke/MethodHandle" ∧ y_S_narrow.cls ≠ "java/lang/invoke/VarHandle" ∧ (parseMethodDescriptor y_S_narrow.desc).map (fun d => d.parameters.length) = some 2 := by decide +kernel
def y_S_openSlot : MethodName := ⟨"GridFills$Search", "openSlot", "(I)V"⟩
abbrev b_S_openSlot : ByteArray := prog_4_method_5_code
theorem hd_S_openSlot : y_S_openSlot.cls ≠ "java/lang/invoke/MethodHandle" ∧ y_S_openSlot.cls ≠ "java/lang/invoke/VarHandle" ∧ (parseMethodDescriptor y_S_openSlot.desc).map (fun d => d.parameters.length) = some 1 := by decide +kernel
def y_S_countAtStart : MethodName := ⟨"GridFills$Search", "countAtStart", "(I)I"⟩
abbrev b_S_countAtStart : ByteArray := prog_4_method_3_code
theorem hd_S_countAtStart : y_S_countAtStart.cls ≠ "java/lang/invoke/MethodHandle" ∧ y_S_countAtStart.cls ≠ "java/lang/invoke/VarHandle" ∧ (parseMethodDescriptor y_S_countAtStart.desc).map (fun d => d.parameters.length) = some 1 := by decide +kernel
def y_S_clearSlots : MethodName := ⟨"GridFills$Search", "clearSlots", "()V"⟩
abbrev b_S_clearSlots : ByteArray := prog_4_method_4_code
theorem hd_S_clearSlots : y_S_clearSlots.cls ≠ "java/lang/invoke/MethodHandle" ∧ y_S_clearSlots.cls ≠ "java/lang/invoke/VarHandle" ∧ (parseMethodDescriptor y_S_clearSlots.desc).map (fun d => d.parameters.length) = some 0 := by decide +kernel
def y_S_lowestBit : MethodName := ⟨"GridFills$Search", "lowestBit", "(J)I"⟩
abbrev b_S_lowestBit : ByteArray := prog_4_method_8_code
theorem hd_S_lowestBit : y_S_lowestBit.cls ≠ "java/lang/invoke/MethodHandle" ∧ y_S_lowestBit.cls ≠ "java/lang/invoke/VarHandle" ∧ (parseMethodDescriptor y_S_lowestBit.desc).map (fun d => d.parameters.length) = some 1 := by decide +kernel
def y_S_takeFilling : MethodName := ⟨"GridFills$Search", "takeFilling", "()Z"⟩
abbrev b_S_takeFilling : ByteArray := prog_4_method_9_code
theorem hd_S_takeFilling : y_S_takeFilling.cls ≠ "java/lang/invoke/MethodHandle" ∧ y_S_takeFilling.cls ≠ "java/lang/invoke/VarHandle" ∧ (parseMethodDescriptor y_S_takeFilling.desc).map (fun d => d.parameters.length) = some 0 := by decide +kernel
def y_S_slotWithFewest : MethodName := ⟨"GridFills$Search", "slotWithFewest", "(I)I"⟩
abbrev b_S_slotWithFewest : ByteArray := prog_4_method_10_code
theorem hd_S_slotWithFewest : y_S_slotWithFewest.cls ≠ "java/lang/invoke/MethodHandle" ∧ y_S_slotWithFewest.cls ≠ "java/lang/invoke/VarHandle" ∧ (parseMethodDescriptor y_S_slotWithFewest.desc).map (fun d => d.parameters.length) = some 1 := by decide +kernel
def y_S_narrowCrossing : MethodName := ⟨"GridFills$Search", "narrowCrossing", "(III)V"⟩
abbrev b_S_narrowCrossing : ByteArray := prog_4_method_12_code
theorem hd_S_narrowCrossing : y_S_narrowCrossing.cls ≠ "java/lang/invoke/MethodHandle" ∧ y_S_narrowCrossing.cls ≠ "java/lang/invoke/VarHandle" ∧ (parseMethodDescriptor y_S_narrowCrossing.desc).map (fun d => d.parameters.length) = some 3 := by decide +kernel
def y_X_black : MethodName := ⟨"GridFills", "black", "(IIZ)Z"⟩
abbrev b_X_black : ByteArray := prog_1_method_2_code
theorem hd_X_black : y_X_black.cls ≠ "java/lang/invoke/MethodHandle" ∧ y_X_black.cls ≠ "java/lang/invoke/VarHandle" ∧ (parseMethodDescriptor y_X_black.desc).map (fun d => d.parameters.length) = some 3 := by decide +kernel
def y_X_isLetter : MethodName := ⟨"GridFills", "isLetter", "(I)Z"⟩
abbrev b_X_isLetter : ByteArray := prog_1_method_19_code
theorem hd_X_isLetter : y_X_isLetter.cls ≠ "java/lang/invoke/MethodHandle" ∧ y_X_isLetter.cls ≠ "java/lang/invoke/VarHandle" ∧ (parseMethodDescriptor y_X_isLetter.desc).map (fun d => d.parameters.length) = some 1 := by decide +kernel
def y_X_unit : MethodName := ⟨"GridFills", "unit", "(I)Z"⟩
abbrev b_X_unit : ByteArray := prog_1_method_3_code
theorem hd_X_unit : y_X_unit.cls ≠ "java/lang/invoke/MethodHandle" ∧ y_X_unit.cls ≠ "java/lang/invoke/VarHandle" ∧ (parseMethodDescriptor y_X_unit.desc).map (fun d => d.parameters.length) = some 1 := by decide +kernel
def y_X_word : MethodName := ⟨"GridFills", "word", "(I)I"⟩
abbrev b_X_word : ByteArray := prog_1_method_4_code
theorem hd_X_word : y_X_word.cls ≠ "java/lang/invoke/MethodHandle" ∧ y_X_word.cls ≠ "java/lang/invoke/VarHandle" ∧ (parseMethodDescriptor y_X_word.desc).map (fun d => d.parameters.length) = some 1 := by decide +kernel
def y_X_given : MethodName := ⟨"GridFills", "given", "(III)Z"⟩
abbrev b_X_given : ByteArray := prog_1_method_5_code
theorem hd_X_given : y_X_given.cls ≠ "java/lang/invoke/MethodHandle" ∧ y_X_given.cls ≠ "java/lang/invoke/VarHandle" ∧ (parseMethodDescriptor y_X_given.desc).map (fun d => d.parameters.length) = some 3 := by decide +kernel
def y_X_theme : MethodName := ⟨"GridFills", "theme", "(II)Z"⟩
abbrev b_X_theme : ByteArray := prog_1_method_6_code
theorem hd_X_theme : y_X_theme.cls ≠ "java/lang/invoke/MethodHandle" ∧ y_X_theme.cls ≠ "java/lang/invoke/VarHandle" ∧ (parseMethodDescriptor y_X_theme.desc).map (fun d => d.parameters.length) = some 2 := by decide +kernel
def y_X_slots : MethodName := ⟨"GridFills", "slots", "()I"⟩
abbrev b_X_slots : ByteArray := prog_1_method_7_code
theorem hd_X_slots : y_X_slots.cls ≠ "java/lang/invoke/MethodHandle" ∧ y_X_slots.cls ≠ "java/lang/invoke/VarHandle" ∧ (parseMethodDescriptor y_X_slots.desc).map (fun d => d.parameters.length) = some 0 := by decide +kernel
def y_X_slot : MethodName := ⟨"GridFills", "slot", "(II)I"⟩
abbrev b_X_slot : ByteArray := prog_1_method_8_code
theorem hd_X_slot : y_X_slot.cls ≠ "java/lang/invoke/MethodHandle" ∧ y_X_slot.cls ≠ "java/lang/invoke/VarHandle" ∧ (parseMethodDescriptor y_X_slot.desc).map (fun d => d.parameters.length) = some 2 := by decide +kernel
def y_X_steps : MethodName := ⟨"GridFills", "steps", "()I"⟩
abbrev b_X_steps : ByteArray := prog_1_method_11_code
theorem hd_X_steps : y_X_steps.cls ≠ "java/lang/invoke/MethodHandle" ∧ y_X_steps.cls ≠ "java/lang/invoke/VarHandle" ∧ (parseMethodDescriptor y_X_steps.desc).map (fun d => d.parameters.length) = some 0 := by decide +kernel
def y_X_many : MethodName := ⟨"GridFills", "many", "()I"⟩
abbrev b_X_many : ByteArray := prog_1_method_12_code
theorem hd_X_many : y_X_many.cls ≠ "java/lang/invoke/MethodHandle" ∧ y_X_many.cls ≠ "java/lang/invoke/VarHandle" ∧ (parseMethodDescriptor y_X_many.desc).map (fun d => d.parameters.length) = some 0 := by decide +kernel
def y_X_score : MethodName := ⟨"GridFills", "score", "()I"⟩
abbrev b_X_score : ByteArray := prog_1_method_13_code
theorem hd_X_score : y_X_score.cls ≠ "java/lang/invoke/MethodHandle" ∧ y_X_score.cls ≠ "java/lang/invoke/VarHandle" ∧ (parseMethodDescriptor y_X_score.desc).map (fun d => d.parameters.length) = some 0 := by decide +kernel
def y_X_letter : MethodName := ⟨"GridFills", "letter", "(II)I"⟩
abbrev b_X_letter : ByteArray := prog_1_method_14_code
theorem hd_X_letter : y_X_letter.cls ≠ "java/lang/invoke/MethodHandle" ∧ y_X_letter.cls ≠ "java/lang/invoke/VarHandle" ∧ (parseMethodDescriptor y_X_letter.desc).map (fun d => d.parameters.length) = some 2 := by decide +kernel
def y_X_check : MethodName := ⟨"GridFills", "check", "()I"⟩
abbrev b_X_check : ByteArray := prog_1_method_15_code
theorem hd_X_check : y_X_check.cls ≠ "java/lang/invoke/MethodHandle" ∧ y_X_check.cls ≠ "java/lang/invoke/VarHandle" ∧ (parseMethodDescriptor y_X_check.desc).map (fun d => d.parameters.length) = some 0 := by decide +kernel
def y_X_alike : MethodName := ⟨"GridFills", "alike", "(I)Z"⟩
abbrev b_X_alike : ByteArray := prog_1_method_16_code
theorem hd_X_alike : y_X_alike.cls ≠ "java/lang/invoke/MethodHandle" ∧ y_X_alike.cls ≠ "java/lang/invoke/VarHandle" ∧ (parseMethodDescriptor y_X_alike.desc).map (fun d => d.parameters.length) = some 1 := by decide +kernel
def y_X_parts : MethodName := ⟨"GridFills", "parts", "()I"⟩
abbrev b_X_parts : ByteArray := prog_1_method_17_code
theorem hd_X_parts : y_X_parts.cls ≠ "java/lang/invoke/MethodHandle" ∧ y_X_parts.cls ≠ "java/lang/invoke/VarHandle" ∧ (parseMethodDescriptor y_X_parts.desc).map (fun d => d.parameters.length) = some 0 := by decide +kernel
def y_X_isStepLimit : MethodName := ⟨"GridFills", "isStepLimit", "(I)Z"⟩
abbrev b_X_isStepLimit : ByteArray := prog_1_method_20_code
theorem hd_X_isStepLimit : y_X_isStepLimit.cls ≠ "java/lang/invoke/MethodHandle" ∧ y_X_isStepLimit.cls ≠ "java/lang/invoke/VarHandle" ∧ (parseMethodDescriptor y_X_isStepLimit.desc).map (fun d => d.parameters.length) = some 1 := by decide +kernel
def y_S_fillFrom : MethodName := ⟨"GridFills$Search", "fillFrom", "(I)Z"⟩
abbrev b_S_fillFrom : ByteArray := prog_4_method_7_code
theorem hd_S_fillFrom : y_S_fillFrom.cls ≠ "java/lang/invoke/MethodHandle" ∧ y_S_fillFrom.cls ≠ "java/lang/invoke/VarHandle" ∧ (parseMethodDescriptor y_S_fillFrom.desc).map (fun d => d.parameters.length) = some 1 := by decide +kernel
def y_S_tryWord : MethodName := ⟨"GridFills$Search", "tryWord", "(III)Z"⟩
abbrev b_S_tryWord : ByteArray := prog_4_method_11_code
theorem hd_S_tryWord : y_S_tryWord.cls ≠ "java/lang/invoke/MethodHandle" ∧ y_S_tryWord.cls ≠ "java/lang/invoke/VarHandle" ∧ (parseMethodDescriptor y_S_tryWord.desc).map (fun d => d.parameters.length) = some 3 := by decide +kernel
def y_S_seek : MethodName := ⟨"GridFills$Search", "seek", "(IZ)I"⟩
abbrev b_S_seek : ByteArray := prog_4_method_2_code
theorem hd_S_seek : y_S_seek.cls ≠ "java/lang/invoke/MethodHandle" ∧ y_S_seek.cls ≠ "java/lang/invoke/VarHandle" ∧ (parseMethodDescriptor y_S_seek.desc).map (fun d => d.parameters.length) = some 2 := by decide +kernel
def y_X_run : MethodName := ⟨"GridFills", "run", "(I)I"⟩
abbrev b_X_run : ByteArray := prog_1_method_9_code
theorem hd_X_run : y_X_run.cls ≠ "java/lang/invoke/MethodHandle" ∧ y_X_run.cls ≠ "java/lang/invoke/VarHandle" ∧ (parseMethodDescriptor y_X_run.desc).map (fun d => d.parameters.length) = some 1 := by decide +kernel
def y_X_best : MethodName := ⟨"GridFills", "best", "(I)I"⟩
abbrev b_X_best : ByteArray := prog_1_method_10_code
theorem hd_X_best : y_X_best.cls ≠ "java/lang/invoke/MethodHandle" ∧ y_X_best.cls ≠ "java/lang/invoke/VarHandle" ∧ (parseMethodDescriptor y_X_best.desc).map (fun d => d.parameters.length) = some 1 := by decide +kernel
def y_M_isCell : MethodName := ⟨"GridFillsModel", "isCell", "(II)Z"⟩
abbrev b_M_isCell : ByteArray := prog_7_method_3_code
theorem hd_M_isCell : y_M_isCell.cls ≠ "java/lang/invoke/MethodHandle" ∧ y_M_isCell.cls ≠ "java/lang/invoke/VarHandle" ∧ (parseMethodDescriptor y_M_isCell.desc).map (fun d => d.parameters.length) = some 2 := by decide +kernel
def y_M_isOpen : MethodName := ⟨"GridFillsModel", "isOpen", "(II)Z"⟩
abbrev b_M_isOpen : ByteArray := prog_7_method_4_code
theorem hd_M_isOpen : y_M_isOpen.cls ≠ "java/lang/invoke/MethodHandle" ∧ y_M_isOpen.cls ≠ "java/lang/invoke/VarHandle" ∧ (parseMethodDescriptor y_M_isOpen.desc).map (fun d => d.parameters.length) = some 2 := by decide +kernel
def y_M_findSlots : MethodName := ⟨"GridFillsModel", "findSlots", "()V"⟩
abbrev b_M_findSlots : ByteArray := prog_7_method_5_code
theorem hd_M_findSlots : y_M_findSlots.cls ≠ "java/lang/invoke/MethodHandle" ∧ y_M_findSlots.cls ≠ "java/lang/invoke/VarHandle" ∧ (parseMethodDescriptor y_M_findSlots.desc).map (fun d => d.parameters.length) = some 0 := by decide +kernel
def y_M_black : MethodName := ⟨"GridFillsModel", "black", "(IIZ)Z"⟩
abbrev b_M_black : ByteArray := prog_7_method_6_code
theorem hd_M_black : y_M_black.cls ≠ "java/lang/invoke/MethodHandle" ∧ y_M_black.cls ≠ "java/lang/invoke/VarHandle" ∧ (parseMethodDescriptor y_M_black.desc).map (fun d => d.parameters.length) = some 3 := by decide +kernel
def y_M_isSlot : MethodName := ⟨"GridFillsModel", "isSlot", "(I)Z"⟩
abbrev b_M_isSlot : ByteArray := prog_7_method_7_code
theorem hd_M_isSlot : y_M_isSlot.cls ≠ "java/lang/invoke/MethodHandle" ∧ y_M_isSlot.cls ≠ "java/lang/invoke/VarHandle" ∧ (parseMethodDescriptor y_M_isSlot.desc).map (fun d => d.parameters.length) = some 1 := by decide +kernel
def y_M_cellOf : MethodName := ⟨"GridFillsModel", "cellOf", "(II)I"⟩
abbrev b_M_cellOf : ByteArray := prog_7_method_8_code
theorem hd_M_cellOf : y_M_cellOf.cls ≠ "java/lang/invoke/MethodHandle" ∧ y_M_cellOf.cls ≠ "java/lang/invoke/VarHandle" ∧ (parseMethodDescriptor y_M_cellOf.desc).map (fun d => d.parameters.length) = some 2 := by decide +kernel
def y_M_isLetter : MethodName := ⟨"GridFillsModel", "isLetter", "(I)Z"⟩
abbrev b_M_isLetter : ByteArray := prog_7_method_9_code
theorem hd_M_isLetter : y_M_isLetter.cls ≠ "java/lang/invoke/MethodHandle" ∧ y_M_isLetter.cls ≠ "java/lang/invoke/VarHandle" ∧ (parseMethodDescriptor y_M_isLetter.desc).map (fun d => d.parameters.length) = some 1 := by decide +kernel
def y_M_unit : MethodName := ⟨"GridFillsModel", "unit", "(I)Z"⟩
abbrev b_M_unit : ByteArray := prog_7_method_10_code
theorem hd_M_unit : y_M_unit.cls ≠ "java/lang/invoke/MethodHandle" ∧ y_M_unit.cls ≠ "java/lang/invoke/VarHandle" ∧ (parseMethodDescriptor y_M_unit.desc).map (fun d => d.parameters.length) = some 1 := by decide +kernel
def y_M_isRow : MethodName := ⟨"GridFillsModel", "isRow", "(I)Z"⟩
abbrev b_M_isRow : ByteArray := prog_7_method_11_code
theorem hd_M_isRow : y_M_isRow.cls ≠ "java/lang/invoke/MethodHandle" ∧ y_M_isRow.cls ≠ "java/lang/invoke/VarHandle" ∧ (parseMethodDescriptor y_M_isRow.desc).map (fun d => d.parameters.length) = some 1 := by decide +kernel
def y_M_enter : MethodName := ⟨"GridFillsModel", "enter", "(I)I"⟩
abbrev b_M_enter : ByteArray := prog_7_method_12_code
theorem hd_M_enter : y_M_enter.cls ≠ "java/lang/invoke/MethodHandle" ∧ y_M_enter.cls ≠ "java/lang/invoke/VarHandle" ∧ (parseMethodDescriptor y_M_enter.desc).map (fun d => d.parameters.length) = some 1 := by decide +kernel
def y_M_word : MethodName := ⟨"GridFillsModel", "word", "(I)I"⟩
abbrev b_M_word : ByteArray := prog_7_method_13_code
theorem hd_M_word : y_M_word.cls ≠ "java/lang/invoke/MethodHandle" ∧ y_M_word.cls ≠ "java/lang/invoke/VarHandle" ∧ (parseMethodDescriptor y_M_word.desc).map (fun d => d.parameters.length) = some 1 := by decide +kernel
def y_M_given : MethodName := ⟨"GridFillsModel", "given", "(III)Z"⟩
abbrev b_M_given : ByteArray := prog_7_method_14_code
theorem hd_M_given : y_M_given.cls ≠ "java/lang/invoke/MethodHandle" ∧ y_M_given.cls ≠ "java/lang/invoke/VarHandle" ∧ (parseMethodDescriptor y_M_given.desc).map (fun d => d.parameters.length) = some 3 := by decide +kernel
def y_M_theme : MethodName := ⟨"GridFillsModel", "theme", "(II)Z"⟩
abbrev b_M_theme : ByteArray := prog_7_method_15_code
theorem hd_M_theme : y_M_theme.cls ≠ "java/lang/invoke/MethodHandle" ∧ y_M_theme.cls ≠ "java/lang/invoke/VarHandle" ∧ (parseMethodDescriptor y_M_theme.desc).map (fun d => d.parameters.length) = some 2 := by decide +kernel
def y_M_slots : MethodName := ⟨"GridFillsModel", "slots", "()I"⟩
abbrev b_M_slots : ByteArray := prog_7_method_16_code
theorem hd_M_slots : y_M_slots.cls ≠ "java/lang/invoke/MethodHandle" ∧ y_M_slots.cls ≠ "java/lang/invoke/VarHandle" ∧ (parseMethodDescriptor y_M_slots.desc).map (fun d => d.parameters.length) = some 0 := by decide +kernel
def y_M_spell : MethodName := ⟨"GridFillsModel", "spell", "()V"⟩
abbrev b_M_spell : ByteArray := prog_7_method_17_code
theorem hd_M_spell : y_M_spell.cls ≠ "java/lang/invoke/MethodHandle" ∧ y_M_spell.cls ≠ "java/lang/invoke/VarHandle" ∧ (parseMethodDescriptor y_M_spell.desc).map (fun d => d.parameters.length) = some 0 := by decide +kernel
def y_M_isUsed : MethodName := ⟨"GridFillsModel", "isUsed", "(I)Z"⟩
abbrev b_M_isUsed : ByteArray := prog_7_method_18_code
theorem hd_M_isUsed : y_M_isUsed.cls ≠ "java/lang/invoke/MethodHandle" ∧ y_M_isUsed.cls ≠ "java/lang/invoke/VarHandle" ∧ (parseMethodDescriptor y_M_isUsed.desc).map (fun d => d.parameters.length) = some 1 := by decide +kernel
def y_M_mayHave : MethodName := ⟨"GridFillsModel", "mayHave", "(II)Z"⟩
abbrev b_M_mayHave : ByteArray := prog_7_method_19_code
theorem hd_M_mayHave : y_M_mayHave.cls ≠ "java/lang/invoke/MethodHandle" ∧ y_M_mayHave.cls ≠ "java/lang/invoke/VarHandle" ∧ (parseMethodDescriptor y_M_mayHave.desc).map (fun d => d.parameters.length) = some 2 := by decide +kernel
def y_M_countFor : MethodName := ⟨"GridFillsModel", "countFor", "(I)I"⟩
abbrev b_M_countFor : ByteArray := prog_7_method_20_code
theorem hd_M_countFor : y_M_countFor.cls ≠ "java/lang/invoke/MethodHandle" ∧ y_M_countFor.cls ≠ "java/lang/invoke/VarHandle" ∧ (parseMethodDescriptor y_M_countFor.desc).map (fun d => d.parameters.length) = some 1 := by decide +kernel
def y_M_clearNow : MethodName := ⟨"GridFillsModel", "clearNow", "()V"⟩
abbrev b_M_clearNow : ByteArray := prog_7_method_21_code
theorem hd_M_clearNow : y_M_clearNow.cls ≠ "java/lang/invoke/MethodHandle" ∧ y_M_clearNow.cls ≠ "java/lang/invoke/VarHandle" ∧ (parseMethodDescriptor y_M_clearNow.desc).map (fun d => d.parameters.length) = some 0 := by decide +kernel
def y_M_slot : MethodName := ⟨"GridFillsModel", "slot", "(II)I"⟩
abbrev b_M_slot : ByteArray := prog_7_method_22_code
theorem hd_M_slot : y_M_slot.cls ≠ "java/lang/invoke/MethodHandle" ∧ y_M_slot.cls ≠ "java/lang/invoke/VarHandle" ∧ (parseMethodDescriptor y_M_slot.desc).map (fun d => d.parameters.length) = some 2 := by decide +kernel
def y_M_isBefore : MethodName := ⟨"GridFillsModel", "isBefore", "(II)Z"⟩
abbrev b_M_isBefore : ByteArray := prog_7_method_23_code
theorem hd_M_isBefore : y_M_isBefore.cls ≠ "java/lang/invoke/MethodHandle" ∧ y_M_isBefore.cls ≠ "java/lang/invoke/VarHandle" ∧ (parseMethodDescriptor y_M_isBefore.desc).map (fun d => d.parameters.length) = some 2 := by decide +kernel
def y_M_open : MethodName := ⟨"GridFillsModel", "open", "(I)Z"⟩
abbrev b_M_open : ByteArray := prog_7_method_24_code
theorem hd_M_open : y_M_open.cls ≠ "java/lang/invoke/MethodHandle" ∧ y_M_open.cls ≠ "java/lang/invoke/VarHandle" ∧ (parseMethodDescriptor y_M_open.desc).map (fun d => d.parameters.length) = some 1 := by decide +kernel
def y_M_sumNow : MethodName := ⟨"GridFillsModel", "sumNow", "()I"⟩
abbrev b_M_sumNow : ByteArray := prog_7_method_25_code
theorem hd_M_sumNow : y_M_sumNow.cls ≠ "java/lang/invoke/MethodHandle" ∧ y_M_sumNow.cls ≠ "java/lang/invoke/VarHandle" ∧ (parseMethodDescriptor y_M_sumNow.desc).map (fun d => d.parameters.length) = some 0 := by decide +kernel
def y_M_search : MethodName := ⟨"GridFillsModel", "search", "(IZ)I"⟩
abbrev b_M_search : ByteArray := prog_7_method_26_code
theorem hd_M_search : y_M_search.cls ≠ "java/lang/invoke/MethodHandle" ∧ y_M_search.cls ≠ "java/lang/invoke/VarHandle" ∧ (parseMethodDescriptor y_M_search.desc).map (fun d => d.parameters.length) = some 2 := by decide +kernel
def y_M_run : MethodName := ⟨"GridFillsModel", "run", "(I)I"⟩
abbrev b_M_run : ByteArray := prog_7_method_27_code
theorem hd_M_run : y_M_run.cls ≠ "java/lang/invoke/MethodHandle" ∧ y_M_run.cls ≠ "java/lang/invoke/VarHandle" ∧ (parseMethodDescriptor y_M_run.desc).map (fun d => d.parameters.length) = some 1 := by decide +kernel
def y_M_best : MethodName := ⟨"GridFillsModel", "best", "(I)I"⟩
abbrev b_M_best : ByteArray := prog_7_method_28_code
theorem hd_M_best : y_M_best.cls ≠ "java/lang/invoke/MethodHandle" ∧ y_M_best.cls ≠ "java/lang/invoke/VarHandle" ∧ (parseMethodDescriptor y_M_best.desc).map (fun d => d.parameters.length) = some 1 := by decide +kernel
def y_M_steps : MethodName := ⟨"GridFillsModel", "steps", "()I"⟩
abbrev b_M_steps : ByteArray := prog_7_method_29_code
theorem hd_M_steps : y_M_steps.cls ≠ "java/lang/invoke/MethodHandle" ∧ y_M_steps.cls ≠ "java/lang/invoke/VarHandle" ∧ (parseMethodDescriptor y_M_steps.desc).map (fun d => d.parameters.length) = some 0 := by decide +kernel
def y_M_many : MethodName := ⟨"GridFillsModel", "many", "()I"⟩
abbrev b_M_many : ByteArray := prog_7_method_30_code
theorem hd_M_many : y_M_many.cls ≠ "java/lang/invoke/MethodHandle" ∧ y_M_many.cls ≠ "java/lang/invoke/VarHandle" ∧ (parseMethodDescriptor y_M_many.desc).map (fun d => d.parameters.length) = some 0 := by decide +kernel
def y_M_score : MethodName := ⟨"GridFillsModel", "score", "()I"⟩
abbrev b_M_score : ByteArray := prog_7_method_31_code
theorem hd_M_score : y_M_score.cls ≠ "java/lang/invoke/MethodHandle" ∧ y_M_score.cls ≠ "java/lang/invoke/VarHandle" ∧ (parseMethodDescriptor y_M_score.desc).map (fun d => d.parameters.length) = some 0 := by decide +kernel
def y_M_letter : MethodName := ⟨"GridFillsModel", "letter", "(II)I"⟩
abbrev b_M_letter : ByteArray := prog_7_method_32_code
theorem hd_M_letter : y_M_letter.cls ≠ "java/lang/invoke/MethodHandle" ∧ y_M_letter.cls ≠ "java/lang/invoke/VarHandle" ∧ (parseMethodDescriptor y_M_letter.desc).map (fun d => d.parameters.length) = some 2 := by decide +kernel
def y_M_check : MethodName := ⟨"GridFillsModel", "check", "()I"⟩
abbrev b_M_check : ByteArray := prog_7_method_33_code
theorem hd_M_check : y_M_check.cls ≠ "java/lang/invoke/MethodHandle" ∧ y_M_check.cls ≠ "java/lang/invoke/VarHandle" ∧ (parseMethodDescriptor y_M_check.desc).map (fun d => d.parameters.length) = some 0 := by decide +kernel
def y_M_alike : MethodName := ⟨"GridFillsModel", "alike", "(I)Z"⟩
abbrev b_M_alike : ByteArray := prog_7_method_34_code
theorem hd_M_alike : y_M_alike.cls ≠ "java/lang/invoke/MethodHandle" ∧ y_M_alike.cls ≠ "java/lang/invoke/VarHandle" ∧ (parseMethodDescriptor y_M_alike.desc).map (fun d => d.parameters.length) = some 1 := by decide +kernel
def y_M_isSeen : MethodName := ⟨"GridFillsModel", "isSeen", "(II)Z"⟩
abbrev b_M_isSeen : ByteArray := prog_7_method_36_code
theorem hd_M_isSeen : y_M_isSeen.cls ≠ "java/lang/invoke/MethodHandle" ∧ y_M_isSeen.cls ≠ "java/lang/invoke/VarHandle" ∧ (parseMethodDescriptor y_M_isSeen.desc).map (fun d => d.parameters.length) = some 2 := by decide +kernel
def y_M_parts : MethodName := ⟨"GridFillsModel", "parts", "()I"⟩
abbrev b_M_parts : ByteArray := prog_7_method_35_code
theorem hd_M_parts : y_M_parts.cls ≠ "java/lang/invoke/MethodHandle" ∧ y_M_parts.cls ≠ "java/lang/invoke/VarHandle" ∧ (parseMethodDescriptor y_M_parts.desc).map (fun d => d.parameters.length) = some 0 := by decide +kernel
abbrev rm_JL_bitCount : Room := { frames := 0, cells := 0, slots := 0, locals := 0 }
abbrev rm_JA_fillI : Room := { frames := 0, cells := 0, slots := 0, locals := 0 }
abbrev rm_JA_fillJ : Room := { frames := 0, cells := 0, slots := 0, locals := 0 }
abbrev rm_G_cellAt : Room := { frames := 0, cells := 0, slots := 0, locals := 0 }
abbrev rm_G_hasSlot : Room := { frames := 0, cells := 0, slots := 0, locals := 0 }
abbrev rm_G_cellOf : Room := { frames := 0, cells := 0, slots := 0, locals := 0 }
abbrev rm_G_slotAt : Room := { frames := 0, cells := 0, slots := 0, locals := 0 }
abbrev rm_G_placeAt : Room := { frames := 0, cells := 0, slots := 0, locals := 0 }
abbrev rm_G_isOpen : Room := { frames := 1, cells := 0, slots := 0, locals := 22 }
abbrev rm_G_markCells : Room := { frames := 1, cells := 0, slots := 0, locals := 22 }
abbrev rm_G_addSlotFrom : Room := { frames := 2, cells := 0, slots := 0, locals := 45 }
abbrev rm_G_findSlots : Room := { frames := 3, cells := 0, slots := 0, locals := 71 }
abbrev rm_G_paint : Room := { frames := 4, cells := 0, slots := 0, locals := 94 }
abbrev rm_G_imageIsOpen : Room := { frames := 2, cells := 0, slots := 0, locals := 45 }
abbrev rm_G_looksTheSame : Room := { frames := 3, cells := 0, slots := 0, locals := 68 }
abbrev rm_G_join : Room := { frames := 2, cells := 0, slots := 0, locals := 45 }
abbrev rm_G_countParts : Room := { frames := 3, cells := 0, slots := 0, locals := 72 }
abbrev rm_L_lowBit : Room := { frames := 0, cells := 0, slots := 0, locals := 0 }
abbrev rm_L_highBit : Room := { frames := 0, cells := 0, slots := 0, locals := 0 }
abbrev rm_L_keyOf : Room := { frames := 0, cells := 0, slots := 0, locals := 0 }
abbrev rm_L_hasWord : Room := { frames := 0, cells := 0, slots := 0, locals := 0 }
abbrev rm_L_letterOf : Room := { frames := 0, cells := 0, slots := 0, locals := 0 }
abbrev rm_L_collect : Room := { frames := 0, cells := 0, slots := 0, locals := 0 }
abbrev rm_L_dropCollected : Room := { frames := 0, cells := 0, slots := 0, locals := 0 }
abbrev rm_L_isCollected : Room := { frames := 1, cells := 0, slots := 0, locals := 22 }
abbrev rm_L_isThere : Room := { frames := 2, cells := 0, slots := 0, locals := 44 }
abbrev rm_L_rank : Room := { frames := 0, cells := 0, slots := 0, locals := 0 }
abbrev rm_L_sortIntoSets : Room := { frames := 1, cells := 0, slots := 0, locals := 24 }
abbrev rm_L_wordFromCollected : Room := { frames := 3, cells := 0, slots := 0, locals := 65 }
abbrev rm_F_forget : Room := { frames := 0, cells := 0, slots := 0, locals := 0 }
abbrev rm_F_keep : Room := { frames := 1, cells := 0, slots := 0, locals := 40 }
abbrev rm_F_wordOf : Room := { frames := 0, cells := 0, slots := 0, locals := 0 }
abbrev rm_F_letterBy : Room := { frames := 1, cells := 0, slots := 0, locals := 22 }
abbrev rm_F_letterAt : Room := { frames := 2, cells := 0, slots := 0, locals := 45 }
abbrev rm_F_agrees : Room := { frames := 0, cells := 0, slots := 0, locals := 0 }
abbrev rm_F_holds : Room := { frames := 2, cells := 0, slots := 0, locals := 45 }
abbrev rm_F_firstFault : Room := { frames := 3, cells := 0, slots := 0, locals := 70 }
abbrev rm_S_narrow : Room := { frames := 0, cells := 0, slots := 0, locals := 0 }
abbrev rm_S_openSlot : Room := { frames := 1, cells := 0, slots := 0, locals := 22 }
abbrev rm_S_countAtStart : Room := { frames := 2, cells := 0, slots := 0, locals := 46 }
abbrev rm_S_clearSlots : Room := { frames := 2, cells := 0, slots := 0, locals := 46 }
abbrev rm_S_lowestBit : Room := { frames := 1, cells := 0, slots := 0, locals := 21 }
abbrev rm_S_takeFilling : Room := { frames := 2, cells := 0, slots := 0, locals := 62 }
abbrev rm_S_slotWithFewest : Room := { frames := 1, cells := 0, slots := 0, locals := 21 }
abbrev rm_S_narrowCrossing : Room := { frames := 1, cells := 0, slots := 0, locals := 40 }
abbrev rm_X_black : Room := { frames := 5, cells := 0, slots := 0, locals := 116 }
abbrev rm_X_isLetter : Room := { frames := 0, cells := 0, slots := 0, locals := 0 }
abbrev rm_X_unit : Room := { frames := 1, cells := 0, slots := 0, locals := 21 }
abbrev rm_X_word : Room := { frames := 4, cells := 0, slots := 0, locals := 87 }
abbrev rm_X_given : Room := { frames := 1, cells := 0, slots := 0, locals := 22 }
abbrev rm_X_theme : Room := { frames := 1, cells := 0, slots := 0, locals := 21 }
abbrev rm_X_slots : Room := { frames := 0, cells := 0, slots := 0, locals := 0 }
abbrev rm_X_slot : Room := { frames := 3, cells := 0, slots := 0, locals := 67 }
abbrev rm_X_steps : Room := { frames := 0, cells := 0, slots := 0, locals := 0 }
abbrev rm_X_many : Room := { frames := 0, cells := 0, slots := 0, locals := 0 }
abbrev rm_X_score : Room := { frames := 0, cells := 0, slots := 0, locals := 0 }
abbrev rm_X_letter : Room := { frames := 3, cells := 0, slots := 0, locals := 67 }
abbrev rm_X_check : Room := { frames := 4, cells := 0, slots := 0, locals := 91 }
abbrev rm_X_alike : Room := { frames := 4, cells := 0, slots := 0, locals := 91 }
abbrev rm_X_parts : Room := { frames := 4, cells := 0, slots := 0, locals := 95 }
abbrev rm_X_isStepLimit : Room := { frames := 0, cells := 0, slots := 0, locals := 0 }
abbrev rm_S_seek : Room := { frames := 61, cells := 0, slots := 0, locals := 2000 }
abbrev rm_X_run : Room := { frames := 62, cells := 0, slots := 0, locals := 2022 }
abbrev rm_X_best : Room := { frames := 62, cells := 0, slots := 0, locals := 2022 }
abbrev rm_M_isCell : Room := { frames := 0, cells := 0, slots := 0, locals := 0 }
abbrev rm_M_isOpen : Room := { frames := 1, cells := 0, slots := 0, locals := 22 }
abbrev rm_M_findSlots : Room := { frames := 2, cells := 0, slots := 0, locals := 44 }
abbrev rm_M_black : Room := { frames := 3, cells := 0, slots := 0, locals := 70 }
abbrev rm_M_isSlot : Room := { frames := 0, cells := 0, slots := 0, locals := 0 }
abbrev rm_M_cellOf : Room := { frames := 0, cells := 0, slots := 0, locals := 0 }
abbrev rm_M_isLetter : Room := { frames := 0, cells := 0, slots := 0, locals := 0 }
abbrev rm_M_unit : Room := { frames := 1, cells := 0, slots := 0, locals := 20 }
abbrev rm_M_isRow : Room := { frames := 0, cells := 0, slots := 0, locals := 0 }
abbrev rm_M_enter : Room := { frames := 1, cells := 0, slots := 0, locals := 22 }
abbrev rm_M_word : Room := { frames := 2, cells := 0, slots := 0, locals := 44 }
abbrev rm_M_given : Room := { frames := 2, cells := 0, slots := 0, locals := 44 }
abbrev rm_M_theme : Room := { frames := 1, cells := 0, slots := 0, locals := 21 }
abbrev rm_M_slots : Room := { frames := 0, cells := 0, slots := 0, locals := 0 }
abbrev rm_M_spell : Room := { frames := 1, cells := 0, slots := 0, locals := 22 }
abbrev rm_M_isUsed : Room := { frames := 0, cells := 0, slots := 0, locals := 0 }
abbrev rm_M_mayHave : Room := { frames := 1, cells := 0, slots := 0, locals := 22 }
abbrev rm_M_countFor : Room := { frames := 2, cells := 0, slots := 0, locals := 46 }
abbrev rm_M_clearNow : Room := { frames := 0, cells := 0, slots := 0, locals := 0 }
abbrev rm_M_slot : Room := { frames := 3, cells := 0, slots := 0, locals := 69 }
abbrev rm_M_isBefore : Room := { frames := 0, cells := 0, slots := 0, locals := 0 }
abbrev rm_M_open : Room := { frames := 3, cells := 0, slots := 0, locals := 69 }
abbrev rm_M_sumNow : Room := { frames := 0, cells := 0, slots := 0, locals := 0 }
abbrev rm_M_search : Room := { frames := 4, cells := 0, slots := 0, locals := 95 }
abbrev rm_M_run : Room := { frames := 5, cells := 0, slots := 0, locals := 121 }
abbrev rm_M_best : Room := { frames := 5, cells := 0, slots := 0, locals := 121 }
abbrev rm_M_steps : Room := { frames := 0, cells := 0, slots := 0, locals := 0 }
abbrev rm_M_many : Room := { frames := 0, cells := 0, slots := 0, locals := 0 }
abbrev rm_M_score : Room := { frames := 0, cells := 0, slots := 0, locals := 0 }
abbrev rm_M_letter : Room := { frames := 1, cells := 0, slots := 0, locals := 22 }
abbrev rm_M_check : Room := { frames := 1, cells := 0, slots := 0, locals := 22 }
abbrev rm_M_alike : Room := { frames := 0, cells := 0, slots := 0, locals := 0 }
abbrev rm_M_isSeen : Room := { frames := 1, cells := 0, slots := 0, locals := 22 }
abbrev rm_M_parts : Room := { frames := 2, cells := 0, slots := 0, locals := 44 }
abbrev rm_JA_fillI_GthemeOf : Room := { frames := 0, cells := 0, slots := 0, locals := 0 }
abbrev rm_JA_fillI_GslotThrough : Room := { frames := 0, cells := 0, slots := 0, locals := 0 }
abbrev rm_JA_fillI_GgivenAt : Room := { frames := 0, cells := 0, slots := 0, locals := 0 }
abbrev rm_JA_fillJ_LlowOfLength : Room := { frames := 0, cells := 0, slots := 0, locals := 0 }
abbrev rm_JA_fillJ_LhighOfLength : Room := { frames := 0, cells := 0, slots := 0, locals := 0 }
abbrev rm_JA_fillJ_LlowOfKey : Room := { frames := 0, cells := 0, slots := 0, locals := 0 }
abbrev rm_JA_fillJ_LhighOfKey : Room := { frames := 0, cells := 0, slots := 0, locals := 0 }
abbrev rm_S_fillFrom (d : Nat) : Room := { frames := 2 * d + 8, cells := 0, slots := 0, locals := 60 * d + 400 }
abbrev rm_S_tryWord (d : Nat) : Room := { frames := 2 * d + 9, cells := 0, slots := 0, locals := 60 * d + 430 }
theorem zz_sw6_0 (x : Int32) : x = 0 ∨ x = 1 ∨ x = 2 ∨ x = 3 ∨ x = 4 ∨ x = 5 ∨ (x.toInt < 0 ∨ 5 < x.toInt) := by
  simp only [← Int32.toInt_inj, show (0 : Int32).toInt = 0 from rfl, show (1 : Int32).toInt = 1 from rfl, show (2 : Int32).toInt = 2 from rfl, show (3 : Int32).toInt = 3 from rfl, show (4 : Int32).toInt = 4 from rfl, show (5 : Int32).toInt = 5 from rfl]
  omega
theorem zz_sw3_0 (x : Int32) : x = 0 ∨ x = 1 ∨ x = 2 ∨ (x.toInt < 0 ∨ 2 < x.toInt) := by
  simp only [← Int32.toInt_inj, show (0 : Int32).toInt = 0 from rfl, show (1 : Int32).toInt = 1 from rfl, show (2 : Int32).toInt = 2 from rfl]
  omega
def y_W_cell : MethodName := ⟨"GridFillsLaw", "cell", "([II)I"⟩
abbrev b_W_cell : ByteArray := method_2_code
def y_W_law : MethodName := ⟨"GridFillsLaw", "law", "([I)Z"⟩
abbrev b_W_law : ByteArray := code
def y_X_init : MethodName := ⟨"GridFills", "<init>", "(II)V"⟩
abbrev b_X_init : ByteArray := prog_1_method_1_code
def y_G_init : MethodName := ⟨"GridFills$Grid", "<init>", "(II)V"⟩
abbrev b_G_init : ByteArray := prog_3_method_1_code
def y_L_init : MethodName := ⟨"GridFills$WordList", "<init>", "()V"⟩
abbrev b_L_init : ByteArray := prog_5_method_1_code
def y_F_init : MethodName := ⟨"GridFills$Filling", "<init>", "(LGridFills$Grid;LGridFills$WordList;)V"⟩
abbrev b_F_init : ByteArray := prog_2_method_1_code
def y_S_init : MethodName := ⟨"GridFills$Search", "<init>", "(LGridFills$Grid;LGridFills$WordList;LGridFills$Filling;)V"⟩
abbrev b_S_init : ByteArray := prog_4_method_1_code
def y_M_init : MethodName := ⟨"GridFillsModel", "<init>", "(II)V"⟩
abbrev b_M_init : ByteArray := prog_7_method_1_code
def y_X_heldToSide : MethodName := ⟨"GridFills", "heldToSide", "(I)I"⟩
abbrev b_X_heldToSide : ByteArray := prog_1_method_18_code
def y_JM_min : MethodName := ⟨"java/lang/Math", "min", "(II)I"⟩
abbrev b_JM_min : ByteArray := prog_9_method_69_code
def y_JM_max : MethodName := ⟨"java/lang/Math", "max", "(II)I"⟩
abbrev b_JM_max : ByteArray := prog_9_method_65_code
theorem kw_0 : Cond.constantLong "java/lang/Long" 314 (6148914691236517205) ∈ zz_tbl := zz_mem (List.mem_append_right _ (List.mem_append_right _ (List.mem_append_left _ (List.mem_of_getElem? (i := 133) rfl)))) rfl
theorem kw_1 : Cond.constantLong "java/lang/Long" 316 (3689348814741910323) ∈ zz_tbl := zz_mem (List.mem_append_right _ (List.mem_append_right _ (List.mem_append_left _ (List.mem_of_getElem? (i := 134) rfl)))) rfl
theorem kw_2 : Cond.constantLong "java/lang/Long" 318 (1085102592571150095) ∈ zz_tbl := zz_mem (List.mem_append_right _ (List.mem_append_right _ (List.mem_append_left _ (List.mem_of_getElem? (i := 135) rfl)))) rfl
theorem kw_3 : Cond.fieldLink "GridFills$Grid" 40 "GridFills$Grid" "width" "I" ∈ zz_tbl := zz_mem (List.mem_append_right _ (List.mem_append_left _ (List.mem_of_getElem? (i := 61) rfl))) rfl
theorem kw_4 : Cond.fieldLink "GridFills$Grid" 44 "GridFills$Grid" "height" "I" ∈ zz_tbl := zz_mem (List.mem_append_right _ (List.mem_append_left _ (List.mem_of_getElem? (i := 63) rfl))) rfl
theorem kw_5 : Cond.fieldLink "GridFills$Grid" 53 "GridFills$Grid" "slotCount" "I" ∈ zz_tbl := zz_mem (List.mem_append_right _ (List.mem_append_left _ (List.mem_of_getElem? (i := 72) rfl))) rfl
theorem kw_6 : Cond.fieldLink "GridFills$Grid" 19 "GridFills$Grid" "firstOf" "[I" ∈ zz_tbl := zz_mem (List.mem_append_right _ (List.mem_append_left _ (List.mem_of_getElem? (i := 76) rfl))) rfl
theorem kw_7 : Cond.fieldLink "GridFills$Grid" 25 "GridFills$Grid" "directionOf" "[I" ∈ zz_tbl := zz_mem (List.mem_append_right _ (List.mem_append_left _ (List.mem_of_getElem? (i := 82) rfl))) rfl
theorem kw_8 : Cond.fieldLink "GridFills$Grid" 31 "GridFills$Grid" "slotThrough" "[I" ∈ zz_tbl := zz_mem (List.mem_append_right _ (List.mem_append_left _ (List.mem_of_getElem? (i := 90) rfl))) rfl
theorem kw_9 : Cond.fieldLink "GridFills$Grid" 34 "GridFills$Grid" "placeThrough" "[I" ∈ zz_tbl := zz_mem (List.mem_append_right _ (List.mem_append_left _ (List.mem_of_getElem? (i := 91) rfl))) rfl
theorem kw_10 : Cond.fieldLink "GridFills$Grid" 9 "GridFills$Grid" "isBlack" "[Z" ∈ zz_tbl := zz_mem (List.mem_append_right _ (List.mem_append_left _ (List.mem_of_getElem? (i := 66) rfl))) rfl
theorem kw_11 : Cond.methodLink "GridFills$Grid" 70 y_G_cellAt ∈ zz_tbl := zz_mem (List.mem_append_right _ (List.mem_append_left _ (List.mem_of_getElem? (i := 49) rfl))) rfl
theorem kw_12 : Cond.code y_G_cellAt b_G_cellAt 3 (some .int) ∈ zz_tbl := zz_mem (List.mem_append_right _ (List.mem_append_left _ (List.mem_of_getElem? (i := 52) rfl))) rfl
theorem kw_13 : Cond.initialized "GridFills$Grid" ∈ zz_tbl := zz_mem (List.mem_append_right _ (List.mem_append_left _ (List.mem_of_getElem? (i := 2) rfl))) rfl
theorem kw_14 : Cond.instanceMethod y_G_cellAt ∈ zz_tbl := zz_mem (List.mem_append_right _ (List.mem_append_left _ (List.mem_of_getElem? (i := 50) rfl))) rfl
theorem kw_15 : Cond.selects "GridFills$Grid" y_G_cellAt y_G_cellAt ∈ zz_tbl := zz_mem (List.mem_append_right _ (List.mem_append_left _ (List.mem_of_getElem? (i := 51) rfl))) rfl
theorem kw_16 : Cond.fieldLink "GridFills$Grid" 22 "GridFills$Grid" "lengthOf" "[I" ∈ zz_tbl := zz_mem (List.mem_append_right _ (List.mem_append_left _ (List.mem_of_getElem? (i := 78) rfl))) rfl
theorem kw_17 : Cond.methodLink "GridFills$Grid" 78 y_G_cellOf ∈ zz_tbl := zz_mem (List.mem_append_right _ (List.mem_append_left _ (List.mem_of_getElem? (i := 57) rfl))) rfl
theorem kw_18 : Cond.code y_G_cellOf b_G_cellOf 3 (some .int) ∈ zz_tbl := zz_mem (List.mem_append_right _ (List.mem_append_left _ (List.mem_of_getElem? (i := 60) rfl))) rfl
theorem kw_19 : Cond.instanceMethod y_G_cellOf ∈ zz_tbl := zz_mem (List.mem_append_right _ (List.mem_append_left _ (List.mem_of_getElem? (i := 58) rfl))) rfl
theorem kw_20 : Cond.selects "GridFills$Grid" y_G_cellOf y_G_cellOf ∈ zz_tbl := zz_mem (List.mem_append_right _ (List.mem_append_left _ (List.mem_of_getElem? (i := 59) rfl))) rfl
theorem kw_21 : Cond.methodLink "GridFills$Grid" 66 y_G_isOpen ∈ zz_tbl := zz_mem (List.mem_append_right _ (List.mem_append_left _ (List.mem_of_getElem? (i := 45) rfl))) rfl
theorem kw_22 : Cond.code y_G_isOpen b_G_isOpen 4 (some .boolean) ∈ zz_tbl := zz_mem (List.mem_append_right _ (List.mem_append_left _ (List.mem_of_getElem? (i := 48) rfl))) rfl
theorem kw_23 : Cond.instanceMethod y_G_isOpen ∈ zz_tbl := zz_mem (List.mem_append_right _ (List.mem_append_left _ (List.mem_of_getElem? (i := 47) rfl))) rfl
theorem kw_24 : Cond.selects "GridFills$Grid" y_G_isOpen y_G_isOpen ∈ zz_tbl := zz_mem (List.mem_append_left _ (List.mem_of_getElem? (i := 2) rfl)) rfl
theorem kw_25 : Cond.methodLink "GridFills$Grid" 74 y_G_markCells ∈ zz_tbl := zz_mem (List.mem_append_right _ (List.mem_append_left _ (List.mem_of_getElem? (i := 53) rfl))) rfl
theorem kw_26 : Cond.code y_G_markCells b_G_markCells 4 none ∈ zz_tbl := zz_mem (List.mem_append_right _ (List.mem_append_left _ (List.mem_of_getElem? (i := 56) rfl))) rfl
theorem kw_27 : Cond.instanceMethod y_G_markCells ∈ zz_tbl := zz_mem (List.mem_append_right _ (List.mem_append_left _ (List.mem_of_getElem? (i := 55) rfl))) rfl
theorem kw_28 : Cond.selects "GridFills$Grid" y_G_markCells y_G_markCells ∈ zz_tbl := zz_mem (List.mem_append_left _ (List.mem_of_getElem? (i := 3) rfl)) rfl
theorem kw_29 : Cond.fieldLink "GridFills$Grid" 28 "GridFills$Grid" "themeOf" "[I" ∈ zz_tbl := zz_mem (List.mem_append_right _ (List.mem_append_left _ (List.mem_of_getElem? (i := 86) rfl))) rfl
theorem kw_30 : Cond.methodLink "GridFills$Grid" 56 y_JA_fillI ∈ zz_tbl := zz_mem (List.mem_append_right _ (List.mem_append_left _ (List.mem_of_getElem? (i := 38) rfl))) rfl
theorem kw_31 : Cond.code y_JA_fillI b_JA_fillI 4 none ∈ zz_tbl := zz_mem (List.mem_append_right _ (List.mem_append_left _ (List.mem_of_getElem? (i := 40) rfl))) rfl
theorem kw_32 : Cond.initialized "java/util/Arrays" ∈ zz_tbl := zz_mem (List.mem_append_right _ (List.mem_append_left _ (List.mem_of_getElem? (i := 4) rfl))) rfl
theorem kw_33 : Cond.static y_JA_fillI ∈ zz_tbl := zz_mem (List.mem_append_right _ (List.mem_append_left _ (List.mem_of_getElem? (i := 39) rfl))) rfl
theorem kw_34 : Cond.methodLink "GridFills$Grid" 62 y_G_addSlotFrom ∈ zz_tbl := zz_mem (List.mem_append_right _ (List.mem_append_left _ (List.mem_of_getElem? (i := 41) rfl))) rfl
theorem kw_35 : Cond.code y_G_addSlotFrom b_G_addSlotFrom 7 none ∈ zz_tbl := zz_mem (List.mem_append_right _ (List.mem_append_left _ (List.mem_of_getElem? (i := 44) rfl))) rfl
theorem kw_36 : Cond.instanceMethod y_G_addSlotFrom ∈ zz_tbl := zz_mem (List.mem_append_right _ (List.mem_append_left _ (List.mem_of_getElem? (i := 43) rfl))) rfl
theorem kw_37 : Cond.selects "GridFills$Grid" y_G_addSlotFrom y_G_addSlotFrom ∈ zz_tbl := zz_mem (List.mem_append_left _ (List.mem_of_getElem? (i := 1) rfl)) rfl
theorem kw_38 : Cond.fieldLink "GridFills$Grid" 15 "GridFills$Grid" "givenAt" "[I" ∈ zz_tbl := zz_mem (List.mem_append_right _ (List.mem_append_left _ (List.mem_of_getElem? (i := 68) rfl))) rfl
theorem kw_39 : Cond.methodLink "GridFills$Grid" 50 y_G_findSlots ∈ zz_tbl := zz_mem (List.mem_append_right _ (List.mem_append_left _ (List.mem_of_getElem? (i := 34) rfl))) rfl
theorem kw_40 : Cond.code y_G_findSlots b_G_findSlots 4 none ∈ zz_tbl := zz_mem (List.mem_append_right _ (List.mem_append_left _ (List.mem_of_getElem? (i := 37) rfl))) rfl
theorem kw_41 : Cond.instanceMethod y_G_findSlots ∈ zz_tbl := zz_mem (List.mem_append_right _ (List.mem_append_left _ (List.mem_of_getElem? (i := 36) rfl))) rfl
theorem kw_42 : Cond.selects "GridFills$Grid" y_G_findSlots y_G_findSlots ∈ zz_tbl := zz_mem (List.mem_append_left _ (List.mem_of_getElem? (i := 0) rfl)) rfl
theorem kw_43 : Cond.methodLink "GridFills$Grid" 81 y_G_imageIsOpen ∈ zz_tbl := zz_mem (List.mem_append_right _ (List.mem_append_right _ (List.mem_append_right _ (List.mem_append_left _ (List.mem_of_getElem? (i := 10) rfl))))) rfl
theorem kw_44 : Cond.code y_G_imageIsOpen b_G_imageIsOpen 4 (some .boolean) ∈ zz_tbl := zz_mem (List.mem_append_right _ (List.mem_append_right _ (List.mem_append_right _ (List.mem_append_left _ (List.mem_of_getElem? (i := 13) rfl))))) rfl
theorem kw_45 : Cond.instanceMethod y_G_imageIsOpen ∈ zz_tbl := zz_mem (List.mem_append_right _ (List.mem_append_right _ (List.mem_append_right _ (List.mem_append_left _ (List.mem_of_getElem? (i := 12) rfl))))) rfl
theorem kw_46 : Cond.selects "GridFills$Grid" y_G_imageIsOpen y_G_imageIsOpen ∈ zz_tbl := zz_mem (List.mem_append_left _ (List.mem_of_getElem? (i := 18) rfl)) rfl
theorem kw_47 : Cond.fieldLink "GridFills$Grid" 37 "GridFills$Grid" "partOf" "[I" ∈ zz_tbl := zz_mem (List.mem_append_right _ (List.mem_append_left _ (List.mem_of_getElem? (i := 92) rfl))) rfl
theorem kw_48 : Cond.fieldLink "GridFills$Grid" 47 "GridFills$Grid" "cellCount" "I" ∈ zz_tbl := zz_mem (List.mem_append_right _ (List.mem_append_left _ (List.mem_of_getElem? (i := 65) rfl))) rfl
theorem kw_49 : Cond.methodLink "GridFills$Grid" 85 y_G_join ∈ zz_tbl := zz_mem (List.mem_append_right _ (List.mem_append_right _ (List.mem_append_right _ (List.mem_append_left _ (List.mem_of_getElem? (i := 22) rfl))))) rfl
theorem kw_50 : Cond.code y_G_join b_G_join 8 (some .boolean) ∈ zz_tbl := zz_mem (List.mem_append_right _ (List.mem_append_right _ (List.mem_append_right _ (List.mem_append_left _ (List.mem_of_getElem? (i := 25) rfl))))) rfl
theorem kw_51 : Cond.instanceMethod y_G_join ∈ zz_tbl := zz_mem (List.mem_append_right _ (List.mem_append_right _ (List.mem_append_right _ (List.mem_append_left _ (List.mem_of_getElem? (i := 24) rfl))))) rfl
theorem kw_52 : Cond.selects "GridFills$Grid" y_G_join y_G_join ∈ zz_tbl := zz_mem (List.mem_append_left _ (List.mem_of_getElem? (i := 19) rfl)) rfl
theorem kw_53 : Cond.fieldLink "GridFills$WordList" 43 "GridFills$WordList" "count" "I" ∈ zz_tbl := zz_mem (List.mem_append_right _ (List.mem_append_left _ (List.mem_of_getElem? (i := 128) rfl))) rfl
theorem kw_54 : Cond.fieldLink "GridFills$WordList" 37 "GridFills$WordList" "letters" "[I" ∈ zz_tbl := zz_mem (List.mem_append_right _ (List.mem_append_left _ (List.mem_of_getElem? (i := 145) rfl))) rfl
theorem kw_55 : Cond.fieldLink "GridFills$WordList" 47 "GridFills$WordList" "collectedCount" "I" ∈ zz_tbl := zz_mem (List.mem_append_right _ (List.mem_append_left _ (List.mem_of_getElem? (i := 147) rfl))) rfl
theorem kw_56 : Cond.fieldLink "GridFills$WordList" 40 "GridFills$WordList" "collected" "[I" ∈ zz_tbl := zz_mem (List.mem_append_right _ (List.mem_append_left _ (List.mem_of_getElem? (i := 146) rfl))) rfl
theorem kw_57 : Cond.fieldLink "GridFills$WordList" 9 "GridFills$WordList" "lengthOf" "[I" ∈ zz_tbl := zz_mem (List.mem_append_right _ (List.mem_append_left _ (List.mem_of_getElem? (i := 129) rfl))) rfl
theorem kw_58 : Cond.methodLink "GridFills$WordList" 71 y_L_letterOf ∈ zz_tbl := zz_mem (List.mem_append_right _ (List.mem_append_right _ (List.mem_append_left _ (List.mem_of_getElem? (i := 59) rfl)))) rfl
theorem kw_59 : Cond.code y_L_letterOf b_L_letterOf 3 (some .int) ∈ zz_tbl := zz_mem (List.mem_append_right _ (List.mem_append_right _ (List.mem_append_left _ (List.mem_of_getElem? (i := 62) rfl)))) rfl
theorem kw_60 : Cond.initialized "GridFills$WordList" ∈ zz_tbl := zz_mem (List.mem_append_right _ (List.mem_append_left _ (List.mem_of_getElem? (i := 5) rfl))) rfl
theorem kw_61 : Cond.instanceMethod y_L_letterOf ∈ zz_tbl := zz_mem (List.mem_append_right _ (List.mem_append_right _ (List.mem_append_left _ (List.mem_of_getElem? (i := 60) rfl)))) rfl
theorem kw_62 : Cond.selects "GridFills$WordList" y_L_letterOf y_L_letterOf ∈ zz_tbl := zz_mem (List.mem_append_right _ (List.mem_append_right _ (List.mem_append_left _ (List.mem_of_getElem? (i := 61) rfl)))) rfl
theorem kw_63 : Cond.methodLink "GridFills$WordList" 67 y_L_isCollected ∈ zz_tbl := zz_mem (List.mem_append_right _ (List.mem_append_right _ (List.mem_append_left _ (List.mem_of_getElem? (i := 55) rfl)))) rfl
theorem kw_64 : Cond.code y_L_isCollected b_L_isCollected 3 (some .boolean) ∈ zz_tbl := zz_mem (List.mem_append_right _ (List.mem_append_right _ (List.mem_append_left _ (List.mem_of_getElem? (i := 58) rfl)))) rfl
theorem kw_65 : Cond.instanceMethod y_L_isCollected ∈ zz_tbl := zz_mem (List.mem_append_right _ (List.mem_append_right _ (List.mem_append_left _ (List.mem_of_getElem? (i := 57) rfl)))) rfl
theorem kw_66 : Cond.selects "GridFills$WordList" y_L_isCollected y_L_isCollected ∈ zz_tbl := zz_mem (List.mem_append_left _ (List.mem_of_getElem? (i := 5) rfl)) rfl
theorem kw_67 : Cond.fieldLink "GridFills$WordList" 15 "GridFills$WordList" "scoreOf" "[I" ∈ zz_tbl := zz_mem (List.mem_append_right _ (List.mem_append_left _ (List.mem_of_getElem? (i := 131) rfl))) rfl
theorem kw_68 : Cond.fieldLink "GridFills$WordList" 18 "GridFills$WordList" "wordOfRank" "[I" ∈ zz_tbl := zz_mem (List.mem_append_right _ (List.mem_append_left _ (List.mem_of_getElem? (i := 133) rfl))) rfl
theorem kw_69 : Cond.fieldLink "GridFills$WordList" 24 "GridFills$WordList" "lowOfLength" "[J" ∈ zz_tbl := zz_mem (List.mem_append_right _ (List.mem_append_left _ (List.mem_of_getElem? (i := 137) rfl))) rfl
theorem kw_70 : Cond.fieldLink "GridFills$WordList" 28 "GridFills$WordList" "highOfLength" "[J" ∈ zz_tbl := zz_mem (List.mem_append_right _ (List.mem_append_left _ (List.mem_of_getElem? (i := 139) rfl))) rfl
theorem kw_71 : Cond.fieldLink "GridFills$WordList" 31 "GridFills$WordList" "lowOfKey" "[J" ∈ zz_tbl := zz_mem (List.mem_append_right _ (List.mem_append_left _ (List.mem_of_getElem? (i := 141) rfl))) rfl
theorem kw_72 : Cond.fieldLink "GridFills$WordList" 34 "GridFills$WordList" "highOfKey" "[J" ∈ zz_tbl := zz_mem (List.mem_append_right _ (List.mem_append_left _ (List.mem_of_getElem? (i := 143) rfl))) rfl
theorem kw_73 : Cond.methodLink "GridFills$WordList" 75 y_JA_fillJ ∈ zz_tbl := zz_mem (List.mem_append_right _ (List.mem_append_right _ (List.mem_append_left _ (List.mem_of_getElem? (i := 74) rfl)))) rfl
theorem kw_74 : Cond.code y_JA_fillJ b_JA_fillJ 5 none ∈ zz_tbl := zz_mem (List.mem_append_right _ (List.mem_append_right _ (List.mem_append_left _ (List.mem_of_getElem? (i := 76) rfl)))) rfl
theorem kw_75 : Cond.static y_JA_fillJ ∈ zz_tbl := zz_mem (List.mem_append_right _ (List.mem_append_right _ (List.mem_append_left _ (List.mem_of_getElem? (i := 75) rfl)))) rfl
theorem kw_76 : Cond.fieldLink "GridFills$WordList" 21 "GridFills$WordList" "rankOf" "[I" ∈ zz_tbl := zz_mem (List.mem_append_right _ (List.mem_append_left _ (List.mem_of_getElem? (i := 135) rfl))) rfl
theorem kw_77 : Cond.methodLink "GridFills$WordList" 85 y_L_highBit ∈ zz_tbl := zz_mem (List.mem_append_right _ (List.mem_append_right _ (List.mem_append_left _ (List.mem_of_getElem? (i := 80) rfl)))) rfl
theorem kw_78 : Cond.code y_L_highBit b_L_highBit 1 (some .long) ∈ zz_tbl := zz_mem (List.mem_append_right _ (List.mem_append_right _ (List.mem_append_left _ (List.mem_of_getElem? (i := 82) rfl)))) rfl
theorem kw_79 : Cond.static y_L_highBit ∈ zz_tbl := zz_mem (List.mem_append_right _ (List.mem_append_right _ (List.mem_append_left _ (List.mem_of_getElem? (i := 81) rfl)))) rfl
theorem kw_80 : Cond.methodLink "GridFills$WordList" 81 y_L_lowBit ∈ zz_tbl := zz_mem (List.mem_append_right _ (List.mem_append_right _ (List.mem_append_left _ (List.mem_of_getElem? (i := 77) rfl)))) rfl
theorem kw_81 : Cond.code y_L_lowBit b_L_lowBit 1 (some .long) ∈ zz_tbl := zz_mem (List.mem_append_right _ (List.mem_append_right _ (List.mem_append_left _ (List.mem_of_getElem? (i := 79) rfl)))) rfl
theorem kw_82 : Cond.static y_L_lowBit ∈ zz_tbl := zz_mem (List.mem_append_right _ (List.mem_append_right _ (List.mem_append_left _ (List.mem_of_getElem? (i := 78) rfl)))) rfl
theorem kw_83 : Cond.methodLink "GridFills$WordList" 88 y_L_keyOf ∈ zz_tbl := zz_mem (List.mem_append_right _ (List.mem_append_right _ (List.mem_append_left _ (List.mem_of_getElem? (i := 83) rfl)))) rfl
theorem kw_84 : Cond.code y_L_keyOf b_L_keyOf 2 (some .int) ∈ zz_tbl := zz_mem (List.mem_append_right _ (List.mem_append_right _ (List.mem_append_left _ (List.mem_of_getElem? (i := 85) rfl)))) rfl
theorem kw_85 : Cond.static y_L_keyOf ∈ zz_tbl := zz_mem (List.mem_append_right _ (List.mem_append_right _ (List.mem_append_left _ (List.mem_of_getElem? (i := 84) rfl)))) rfl
theorem kw_86 : Cond.methodLink "GridFills$WordList" 54 ⟨"java/lang/System", "arraycopy", "(Ljava/lang/Object;ILjava/lang/Object;II)V"⟩ ∈ zz_tbl := zz_mem (List.mem_append_right _ (List.mem_append_right _ (List.mem_append_left _ (List.mem_of_getElem? (i := 63) rfl)))) rfl
theorem kw_87 : Cond.native ⟨"java/lang/System", "arraycopy", "(Ljava/lang/Object;ILjava/lang/Object;II)V"⟩ ∈ zz_tbl := zz_mem (List.mem_append_right _ (List.mem_append_right _ (List.mem_append_left _ (List.mem_of_getElem? (i := 65) rfl)))) rfl
theorem kw_88 : Cond.static ⟨"java/lang/System", "arraycopy", "(Ljava/lang/Object;ILjava/lang/Object;II)V"⟩ ∈ zz_tbl := zz_mem (List.mem_append_right _ (List.mem_append_right _ (List.mem_append_left _ (List.mem_of_getElem? (i := 64) rfl)))) rfl
theorem kw_89 : Cond.initialized "java/lang/System" ∈ zz_tbl := zz_mem (List.mem_append_right _ (List.mem_append_left _ (List.mem_of_getElem? (i := 9) rfl))) rfl
theorem kw_90 : Cond.methodLink "GridFills$WordList" 64 y_L_sortIntoSets ∈ zz_tbl := zz_mem (List.mem_append_right _ (List.mem_append_right _ (List.mem_append_left _ (List.mem_of_getElem? (i := 70) rfl)))) rfl
theorem kw_91 : Cond.code y_L_sortIntoSets b_L_sortIntoSets 5 none ∈ zz_tbl := zz_mem (List.mem_append_right _ (List.mem_append_right _ (List.mem_append_left _ (List.mem_of_getElem? (i := 73) rfl)))) rfl
theorem kw_92 : Cond.instanceMethod y_L_sortIntoSets ∈ zz_tbl := zz_mem (List.mem_append_right _ (List.mem_append_right _ (List.mem_append_left _ (List.mem_of_getElem? (i := 72) rfl)))) rfl
theorem kw_93 : Cond.selects "GridFills$WordList" y_L_sortIntoSets y_L_sortIntoSets ∈ zz_tbl := zz_mem (List.mem_append_left _ (List.mem_of_getElem? (i := 7) rfl)) rfl
theorem kw_94 : Cond.methodLink "GridFills$WordList" 60 y_L_rank ∈ zz_tbl := zz_mem (List.mem_append_right _ (List.mem_append_right _ (List.mem_append_left _ (List.mem_of_getElem? (i := 66) rfl)))) rfl
theorem kw_95 : Cond.code y_L_rank b_L_rank 3 none ∈ zz_tbl := zz_mem (List.mem_append_right _ (List.mem_append_right _ (List.mem_append_left _ (List.mem_of_getElem? (i := 69) rfl)))) rfl
theorem kw_96 : Cond.instanceMethod y_L_rank ∈ zz_tbl := zz_mem (List.mem_append_right _ (List.mem_append_right _ (List.mem_append_left _ (List.mem_of_getElem? (i := 68) rfl)))) rfl
theorem kw_97 : Cond.selects "GridFills$WordList" y_L_rank y_L_rank ∈ zz_tbl := zz_mem (List.mem_append_left _ (List.mem_of_getElem? (i := 6) rfl)) rfl
theorem kw_98 : Cond.methodLink "GridFills$WordList" 50 y_L_isThere ∈ zz_tbl := zz_mem (List.mem_append_right _ (List.mem_append_right _ (List.mem_append_left _ (List.mem_of_getElem? (i := 51) rfl)))) rfl
theorem kw_99 : Cond.code y_L_isThere b_L_isThere 2 (some .boolean) ∈ zz_tbl := zz_mem (List.mem_append_right _ (List.mem_append_right _ (List.mem_append_left _ (List.mem_of_getElem? (i := 54) rfl)))) rfl
theorem kw_100 : Cond.instanceMethod y_L_isThere ∈ zz_tbl := zz_mem (List.mem_append_right _ (List.mem_append_right _ (List.mem_append_left _ (List.mem_of_getElem? (i := 53) rfl)))) rfl
theorem kw_101 : Cond.selects "GridFills$WordList" y_L_isThere y_L_isThere ∈ zz_tbl := zz_mem (List.mem_append_left _ (List.mem_of_getElem? (i := 4) rfl)) rfl
theorem kw_102 : Cond.fieldLink "GridFills$Filling" 15 "GridFills$Filling" "total" "I" ∈ zz_tbl := zz_mem (List.mem_append_right _ (List.mem_append_left _ (List.mem_of_getElem? (i := 183) rfl))) rfl
theorem kw_103 : Cond.fieldLink "GridFills$Filling" 9 "GridFills$Filling" "wordIn" "[I" ∈ zz_tbl := zz_mem (List.mem_append_right _ (List.mem_append_left _ (List.mem_of_getElem? (i := 182) rfl))) rfl
theorem kw_104 : Cond.fieldLink "GridFills$Filling" 19 "GridFills$Filling" "grid" "LGridFills$Grid;" ∈ zz_tbl := zz_mem (List.mem_append_right _ (List.mem_append_left _ (List.mem_of_getElem? (i := 180) rfl))) rfl
theorem kw_105 : Cond.fieldLink "GridFills$Filling" 27 "GridFills$Grid" "slotCount" "I" ∈ zz_tbl := zz_mem (List.mem_append_right _ (List.mem_append_left _ (List.mem_of_getElem? (i := 73) rfl))) rfl
theorem kw_106 : Cond.methodLink "GridFills$Filling" 32 ⟨"java/lang/System", "arraycopy", "(Ljava/lang/Object;ILjava/lang/Object;II)V"⟩ ∈ zz_tbl := zz_mem (List.mem_append_right _ (List.mem_append_right _ (List.mem_append_left _ (List.mem_of_getElem? (i := 168) rfl)))) rfl
theorem kw_107 : Cond.fieldLink "GridFills$Filling" 23 "GridFills$Filling" "list" "LGridFills$WordList;" ∈ zz_tbl := zz_mem (List.mem_append_right _ (List.mem_append_left _ (List.mem_of_getElem? (i := 181) rfl))) rfl
theorem kw_108 : Cond.methodLink "GridFills$Filling" 48 y_L_letterOf ∈ zz_tbl := zz_mem (List.mem_append_right _ (List.mem_append_right _ (List.mem_append_left _ (List.mem_of_getElem? (i := 225) rfl)))) rfl
theorem kw_109 : Cond.methodLink "GridFills$Filling" 45 y_G_placeAt ∈ zz_tbl := zz_mem (List.mem_append_right _ (List.mem_append_right _ (List.mem_append_left _ (List.mem_of_getElem? (i := 224) rfl)))) rfl
theorem kw_110 : Cond.code y_G_placeAt b_G_placeAt 3 (some .int) ∈ zz_tbl := zz_mem (List.mem_append_right _ (List.mem_append_right _ (List.mem_append_left _ (List.mem_of_getElem? (i := 193) rfl)))) rfl
theorem kw_111 : Cond.instanceMethod y_G_placeAt ∈ zz_tbl := zz_mem (List.mem_append_right _ (List.mem_append_right _ (List.mem_append_left _ (List.mem_of_getElem? (i := 191) rfl)))) rfl
theorem kw_112 : Cond.selects "GridFills$Grid" y_G_placeAt y_G_placeAt ∈ zz_tbl := zz_mem (List.mem_append_right _ (List.mem_append_right _ (List.mem_append_left _ (List.mem_of_getElem? (i := 192) rfl)))) rfl
theorem kw_113 : Cond.methodLink "GridFills$Filling" 42 y_G_slotAt ∈ zz_tbl := zz_mem (List.mem_append_right _ (List.mem_append_right _ (List.mem_append_left _ (List.mem_of_getElem? (i := 223) rfl)))) rfl
theorem kw_114 : Cond.code y_G_slotAt b_G_slotAt 3 (some .int) ∈ zz_tbl := zz_mem (List.mem_append_right _ (List.mem_append_right _ (List.mem_append_left _ (List.mem_of_getElem? (i := 189) rfl)))) rfl
theorem kw_115 : Cond.instanceMethod y_G_slotAt ∈ zz_tbl := zz_mem (List.mem_append_right _ (List.mem_append_right _ (List.mem_append_left _ (List.mem_of_getElem? (i := 187) rfl)))) rfl
theorem kw_116 : Cond.selects "GridFills$Grid" y_G_slotAt y_G_slotAt ∈ zz_tbl := zz_mem (List.mem_append_right _ (List.mem_append_right _ (List.mem_append_left _ (List.mem_of_getElem? (i := 188) rfl)))) rfl
theorem kw_117 : Cond.methodLink "GridFills$Filling" 38 y_F_letterBy ∈ zz_tbl := zz_mem (List.mem_append_right _ (List.mem_append_right _ (List.mem_append_left _ (List.mem_of_getElem? (i := 219) rfl)))) rfl
theorem kw_118 : Cond.code y_F_letterBy b_F_letterBy 4 (some .int) ∈ zz_tbl := zz_mem (List.mem_append_right _ (List.mem_append_right _ (List.mem_append_left _ (List.mem_of_getElem? (i := 222) rfl)))) rfl
theorem kw_119 : Cond.initialized "GridFills$Filling" ∈ zz_tbl := zz_mem (List.mem_append_right _ (List.mem_append_left _ (List.mem_of_getElem? (i := 6) rfl))) rfl
theorem kw_120 : Cond.instanceMethod y_F_letterBy ∈ zz_tbl := zz_mem (List.mem_append_right _ (List.mem_append_right _ (List.mem_append_left _ (List.mem_of_getElem? (i := 221) rfl)))) rfl
theorem kw_121 : Cond.selects "GridFills$Filling" y_F_letterBy y_F_letterBy ∈ zz_tbl := zz_mem (List.mem_append_left _ (List.mem_of_getElem? (i := 16) rfl)) rfl
theorem kw_122 : Cond.fieldLink "GridFills$Filling" 57 "GridFills$Grid" "themeOf" "[I" ∈ zz_tbl := zz_mem (List.mem_append_right _ (List.mem_append_left _ (List.mem_of_getElem? (i := 89) rfl))) rfl
theorem kw_123 : Cond.fieldLink "GridFills$Filling" 60 "GridFills$Grid" "directionOf" "[I" ∈ zz_tbl := zz_mem (List.mem_append_right _ (List.mem_append_left _ (List.mem_of_getElem? (i := 83) rfl))) rfl
theorem kw_124 : Cond.fieldLink "GridFills$Filling" 63 "GridFills$Grid" "lengthOf" "[I" ∈ zz_tbl := zz_mem (List.mem_append_right _ (List.mem_append_left _ (List.mem_of_getElem? (i := 81) rfl))) rfl
theorem kw_125 : Cond.fieldLink "GridFills$Filling" 69 "GridFills$Grid" "givenAt" "[I" ∈ zz_tbl := zz_mem (List.mem_append_right _ (List.mem_append_left _ (List.mem_of_getElem? (i := 71) rfl))) rfl
theorem kw_126 : Cond.methodLink "GridFills$Filling" 72 y_F_agrees ∈ zz_tbl := zz_mem (List.mem_append_right _ (List.mem_append_right _ (List.mem_append_left _ (List.mem_of_getElem? (i := 239) rfl)))) rfl
theorem kw_127 : Cond.code y_F_agrees b_F_agrees 2 (some .boolean) ∈ zz_tbl := zz_mem (List.mem_append_right _ (List.mem_append_right _ (List.mem_append_right _ (List.mem_append_left _ (List.mem_of_getElem? (i := 1) rfl))))) rfl
theorem kw_128 : Cond.static y_F_agrees ∈ zz_tbl := zz_mem (List.mem_append_right _ (List.mem_append_right _ (List.mem_append_right _ (List.mem_append_left _ (List.mem_of_getElem? (i := 0) rfl))))) rfl
theorem kw_129 : Cond.methodLink "GridFills$Filling" 66 y_G_cellOf ∈ zz_tbl := zz_mem (List.mem_append_right _ (List.mem_append_right _ (List.mem_append_left _ (List.mem_of_getElem? (i := 238) rfl)))) rfl
theorem kw_130 : Cond.methodLink "GridFills$Filling" 53 y_F_holds ∈ zz_tbl := zz_mem (List.mem_append_right _ (List.mem_append_right _ (List.mem_append_left _ (List.mem_of_getElem? (i := 234) rfl)))) rfl
theorem kw_131 : Cond.code y_F_holds b_F_holds 6 (some .boolean) ∈ zz_tbl := zz_mem (List.mem_append_right _ (List.mem_append_right _ (List.mem_append_left _ (List.mem_of_getElem? (i := 237) rfl)))) rfl
theorem kw_132 : Cond.instanceMethod y_F_holds ∈ zz_tbl := zz_mem (List.mem_append_right _ (List.mem_append_right _ (List.mem_append_left _ (List.mem_of_getElem? (i := 236) rfl)))) rfl
theorem kw_133 : Cond.selects "GridFills$Filling" y_F_holds y_F_holds ∈ zz_tbl := zz_mem (List.mem_append_left _ (List.mem_of_getElem? (i := 17) rfl)) rfl
theorem kw_134 : Cond.fieldLink "GridFills$Search" 9 "GridFills$Search" "low" "[J" ∈ zz_tbl := zz_mem (List.mem_append_right _ (List.mem_append_left _ (List.mem_of_getElem? (i := 204) rfl))) rfl
theorem kw_135 : Cond.fieldLink "GridFills$Search" 26 "GridFills$Search" "list" "LGridFills$WordList;" ∈ zz_tbl := zz_mem (List.mem_append_right _ (List.mem_append_left _ (List.mem_of_getElem? (i := 202) rfl))) rfl
theorem kw_136 : Cond.fieldLink "GridFills$Search" 126 "GridFills$WordList" "lowOfKey" "[J" ∈ zz_tbl := zz_mem (List.mem_append_right _ (List.mem_append_left _ (List.mem_of_getElem? (i := 142) rfl))) rfl
theorem kw_137 : Cond.fieldLink "GridFills$Search" 15 "GridFills$Search" "high" "[J" ∈ zz_tbl := zz_mem (List.mem_append_right _ (List.mem_append_left _ (List.mem_of_getElem? (i := 205) rfl))) rfl
theorem kw_138 : Cond.fieldLink "GridFills$Search" 129 "GridFills$WordList" "highOfKey" "[J" ∈ zz_tbl := zz_mem (List.mem_append_right _ (List.mem_append_left _ (List.mem_of_getElem? (i := 144) rfl))) rfl
theorem kw_139 : Cond.fieldLink "GridFills$Search" 22 "GridFills$Search" "grid" "LGridFills$Grid;" ∈ zz_tbl := zz_mem (List.mem_append_right _ (List.mem_append_left _ (List.mem_of_getElem? (i := 201) rfl))) rfl
theorem kw_140 : Cond.fieldLink "GridFills$Search" 88 "GridFills$Grid" "lengthOf" "[I" ∈ zz_tbl := zz_mem (List.mem_append_right _ (List.mem_append_left _ (List.mem_of_getElem? (i := 79) rfl))) rfl
theorem kw_141 : Cond.fieldLink "GridFills$Search" 91 "GridFills$WordList" "lowOfLength" "[J" ∈ zz_tbl := zz_mem (List.mem_append_right _ (List.mem_append_left _ (List.mem_of_getElem? (i := 138) rfl))) rfl
theorem kw_142 : Cond.fieldLink "GridFills$Search" 96 "GridFills$WordList" "highOfLength" "[J" ∈ zz_tbl := zz_mem (List.mem_append_right _ (List.mem_append_left _ (List.mem_of_getElem? (i := 140) rfl))) rfl
theorem kw_143 : Cond.fieldLink "GridFills$Search" 113 "GridFills$Grid" "themeOf" "[I" ∈ zz_tbl := zz_mem (List.mem_append_right _ (List.mem_append_left _ (List.mem_of_getElem? (i := 87) rfl))) rfl
theorem kw_144 : Cond.fieldLink "GridFills$Search" 116 "GridFills$WordList" "rankOf" "[I" ∈ zz_tbl := zz_mem (List.mem_append_right _ (List.mem_append_left _ (List.mem_of_getElem? (i := 136) rfl))) rfl
theorem kw_145 : Cond.methodLink "GridFills$Search" 123 y_L_highBit ∈ zz_tbl := zz_mem (List.mem_append_right _ (List.mem_append_right _ (List.mem_append_left _ (List.mem_of_getElem? (i := 129) rfl)))) rfl
theorem kw_146 : Cond.methodLink "GridFills$Search" 119 y_L_lowBit ∈ zz_tbl := zz_mem (List.mem_append_right _ (List.mem_append_right _ (List.mem_append_left _ (List.mem_of_getElem? (i := 128) rfl)))) rfl
theorem kw_147 : Cond.fieldLink "GridFills$Search" 99 "GridFills$Grid" "givenAt" "[I" ∈ zz_tbl := zz_mem (List.mem_append_right _ (List.mem_append_left _ (List.mem_of_getElem? (i := 70) rfl))) rfl
theorem kw_148 : Cond.methodLink "GridFills$Search" 109 y_S_narrow ∈ zz_tbl := zz_mem (List.mem_append_right _ (List.mem_append_right _ (List.mem_append_left _ (List.mem_of_getElem? (i := 124) rfl)))) rfl
theorem kw_149 : Cond.code y_S_narrow b_S_narrow 3 none ∈ zz_tbl := zz_mem (List.mem_append_right _ (List.mem_append_right _ (List.mem_append_left _ (List.mem_of_getElem? (i := 127) rfl)))) rfl
theorem kw_150 : Cond.initialized "GridFills$Search" ∈ zz_tbl := zz_mem (List.mem_append_right _ (List.mem_append_left _ (List.mem_of_getElem? (i := 7) rfl))) rfl
theorem kw_151 : Cond.instanceMethod y_S_narrow ∈ zz_tbl := zz_mem (List.mem_append_right _ (List.mem_append_right _ (List.mem_append_left _ (List.mem_of_getElem? (i := 126) rfl)))) rfl
theorem kw_152 : Cond.selects "GridFills$Search" y_S_narrow y_S_narrow ∈ zz_tbl := zz_mem (List.mem_append_left _ (List.mem_of_getElem? (i := 9) rfl)) rfl
theorem kw_153 : Cond.methodLink "GridFills$Search" 106 y_L_keyOf ∈ zz_tbl := zz_mem (List.mem_append_right _ (List.mem_append_right _ (List.mem_append_left _ (List.mem_of_getElem? (i := 123) rfl)))) rfl
theorem kw_154 : Cond.methodLink "GridFills$Search" 102 y_G_cellOf ∈ zz_tbl := zz_mem (List.mem_append_right _ (List.mem_append_right _ (List.mem_append_left _ (List.mem_of_getElem? (i := 122) rfl)))) rfl
theorem kw_155 : Cond.methodLink "GridFills$Search" 70 y_JL_bitCount ∈ zz_tbl := zz_mem (List.mem_append_right _ (List.mem_append_right _ (List.mem_append_left _ (List.mem_of_getElem? (i := 130) rfl)))) rfl
theorem kw_156 : Cond.code y_JL_bitCount b_JL_bitCount 2 (some .int) ∈ zz_tbl := zz_mem (List.mem_append_right _ (List.mem_append_right _ (List.mem_append_left _ (List.mem_of_getElem? (i := 132) rfl)))) rfl
theorem kw_157 : Cond.initialized "java/lang/Long" ∈ zz_tbl := zz_mem (List.mem_append_right _ (List.mem_append_left _ (List.mem_of_getElem? (i := 10) rfl))) rfl
theorem kw_158 : Cond.static y_JL_bitCount ∈ zz_tbl := zz_mem (List.mem_append_right _ (List.mem_append_right _ (List.mem_append_left _ (List.mem_of_getElem? (i := 131) rfl)))) rfl
theorem kw_159 : Cond.methodLink "GridFills$Search" 66 y_S_openSlot ∈ zz_tbl := zz_mem (List.mem_append_right _ (List.mem_append_right _ (List.mem_append_left _ (List.mem_of_getElem? (i := 118) rfl)))) rfl
theorem kw_160 : Cond.code y_S_openSlot b_S_openSlot 5 none ∈ zz_tbl := zz_mem (List.mem_append_right _ (List.mem_append_right _ (List.mem_append_left _ (List.mem_of_getElem? (i := 121) rfl)))) rfl
theorem kw_161 : Cond.instanceMethod y_S_openSlot ∈ zz_tbl := zz_mem (List.mem_append_right _ (List.mem_append_right _ (List.mem_append_left _ (List.mem_of_getElem? (i := 120) rfl)))) rfl
theorem kw_162 : Cond.selects "GridFills$Search" y_S_openSlot y_S_openSlot ∈ zz_tbl := zz_mem (List.mem_append_left _ (List.mem_of_getElem? (i := 8) rfl)) rfl
theorem kw_163 : Cond.fieldLink "GridFills$Search" 80 "GridFills$Search" "usedHigh" "J" ∈ zz_tbl := zz_mem (List.mem_append_right _ (List.mem_append_left _ (List.mem_of_getElem? (i := 208) rfl))) rfl
theorem kw_164 : Cond.fieldLink "GridFills$Search" 76 "GridFills$Search" "usedLow" "J" ∈ zz_tbl := zz_mem (List.mem_append_right _ (List.mem_append_left _ (List.mem_of_getElem? (i := 207) rfl))) rfl
theorem kw_165 : Cond.fieldLink "GridFills$Search" 83 "GridFills$Grid" "slotCount" "I" ∈ zz_tbl := zz_mem (List.mem_append_right _ (List.mem_append_left _ (List.mem_of_getElem? (i := 74) rfl))) rfl
theorem kw_166 : Cond.fieldLink "GridFills$Search" 18 "GridFills$Search" "wordIn" "[I" ∈ zz_tbl := zz_mem (List.mem_append_right _ (List.mem_append_left _ (List.mem_of_getElem? (i := 206) rfl))) rfl
theorem kw_167 : Cond.fieldLink "GridFills$Search" 48 "GridFills$Search" "fillings" "I" ∈ zz_tbl := zz_mem (List.mem_append_right _ (List.mem_append_left _ (List.mem_of_getElem? (i := 215) rfl))) rfl
theorem kw_168 : Cond.fieldLink "GridFills$Search" 51 "GridFills$Search" "sum" "I" ∈ zz_tbl := zz_mem (List.mem_append_right _ (List.mem_append_left _ (List.mem_of_getElem? (i := 209) rfl))) rfl
theorem kw_169 : Cond.fieldLink "GridFills$Search" 30 "GridFills$Search" "found" "LGridFills$Filling;" ∈ zz_tbl := zz_mem (List.mem_append_right _ (List.mem_append_left _ (List.mem_of_getElem? (i := 203) rfl))) rfl
theorem kw_170 : Cond.fieldLink "GridFills$Search" 149 "GridFills$Filling" "total" "I" ∈ zz_tbl := zz_mem (List.mem_append_right _ (List.mem_append_left _ (List.mem_of_getElem? (i := 184) rfl))) rfl
theorem kw_171 : Cond.fieldLink "GridFills$Search" 38 "GridFills$Search" "wantsAll" "Z" ∈ zz_tbl := zz_mem (List.mem_append_right _ (List.mem_append_left _ (List.mem_of_getElem? (i := 211) rfl))) rfl
theorem kw_172 : Cond.methodLink "GridFills$Search" 152 y_F_keep ∈ zz_tbl := zz_mem (List.mem_append_right _ (List.mem_append_right _ (List.mem_append_left _ (List.mem_of_getElem? (i := 164) rfl)))) rfl
theorem kw_173 : Cond.code y_F_keep b_F_keep 3 none ∈ zz_tbl := zz_mem (List.mem_append_right _ (List.mem_append_right _ (List.mem_append_left _ (List.mem_of_getElem? (i := 167) rfl)))) rfl
theorem kw_174 : Cond.instanceMethod y_F_keep ∈ zz_tbl := zz_mem (List.mem_append_right _ (List.mem_append_right _ (List.mem_append_left _ (List.mem_of_getElem? (i := 165) rfl)))) rfl
theorem kw_175 : Cond.selects "GridFills$Filling" y_F_keep y_F_keep ∈ zz_tbl := zz_mem (List.mem_append_right _ (List.mem_append_right _ (List.mem_append_left _ (List.mem_of_getElem? (i := 166) rfl)))) rfl
theorem kw_176 : Cond.constantLong "GridFills$Search" 140 (-1) ∈ zz_tbl := zz_mem (List.mem_append_right _ (List.mem_append_right _ (List.mem_append_left _ (List.mem_of_getElem? (i := 173) rfl)))) rfl
theorem kw_177 : Cond.methodLink "GridFills$Search" 166 ⟨"java/lang/System", "arraycopy", "(Ljava/lang/Object;ILjava/lang/Object;II)V"⟩ ∈ zz_tbl := zz_mem (List.mem_append_right _ (List.mem_append_right _ (List.mem_append_left _ (List.mem_of_getElem? (i := 185) rfl)))) rfl
theorem kw_178 : Cond.fieldLink "GridFills$Search" 172 "GridFills$Grid" "directionOf" "[I" ∈ zz_tbl := zz_mem (List.mem_append_right _ (List.mem_append_left _ (List.mem_of_getElem? (i := 85) rfl))) rfl
theorem kw_179 : Cond.methodLink "GridFills$Search" 181 y_L_letterOf ∈ zz_tbl := zz_mem (List.mem_append_right _ (List.mem_append_right _ (List.mem_append_left _ (List.mem_of_getElem? (i := 194) rfl)))) rfl
theorem kw_180 : Cond.methodLink "GridFills$Search" 178 y_G_placeAt ∈ zz_tbl := zz_mem (List.mem_append_right _ (List.mem_append_right _ (List.mem_append_left _ (List.mem_of_getElem? (i := 190) rfl)))) rfl
theorem kw_181 : Cond.methodLink "GridFills$Search" 175 y_G_slotAt ∈ zz_tbl := zz_mem (List.mem_append_right _ (List.mem_append_right _ (List.mem_append_left _ (List.mem_of_getElem? (i := 186) rfl)))) rfl
theorem kw_182 : Cond.fieldLink "GridFills" 18 "GridFills" "grid" "LGridFills$Grid;" ∈ zz_tbl := zz_mem (List.mem_append_right _ (List.mem_append_right _ (List.mem_append_left _ (List.mem_of_getElem? (i := 6) rfl)))) rfl
theorem kw_183 : Cond.fieldLink "GridFills" 51 "GridFills$Grid" "isBlack" "[Z" ∈ zz_tbl := zz_mem (List.mem_append_right _ (List.mem_append_left _ (List.mem_of_getElem? (i := 67) rfl))) rfl
theorem kw_184 : Cond.fieldLink "GridFills" 34 "GridFills" "found" "LGridFills$Filling;" ∈ zz_tbl := zz_mem (List.mem_append_right _ (List.mem_append_right _ (List.mem_append_left _ (List.mem_of_getElem? (i := 8) rfl)))) rfl
theorem kw_185 : Cond.methodLink "GridFills" 59 y_F_forget ∈ zz_tbl := zz_mem (List.mem_append_right _ (List.mem_append_right _ (List.mem_append_left _ (List.mem_of_getElem? (i := 28) rfl)))) rfl
theorem kw_186 : Cond.code y_F_forget b_F_forget 1 none ∈ zz_tbl := zz_mem (List.mem_append_right _ (List.mem_append_right _ (List.mem_append_left _ (List.mem_of_getElem? (i := 31) rfl)))) rfl
theorem kw_187 : Cond.instanceMethod y_F_forget ∈ zz_tbl := zz_mem (List.mem_append_right _ (List.mem_append_right _ (List.mem_append_left _ (List.mem_of_getElem? (i := 29) rfl)))) rfl
theorem kw_188 : Cond.selects "GridFills$Filling" y_F_forget y_F_forget ∈ zz_tbl := zz_mem (List.mem_append_right _ (List.mem_append_right _ (List.mem_append_left _ (List.mem_of_getElem? (i := 30) rfl)))) rfl
theorem kw_189 : Cond.methodLink "GridFills" 55 y_G_paint ∈ zz_tbl := zz_mem (List.mem_append_right _ (List.mem_append_right _ (List.mem_append_left _ (List.mem_of_getElem? (i := 24) rfl)))) rfl
theorem kw_190 : Cond.code y_G_paint b_G_paint 3 none ∈ zz_tbl := zz_mem (List.mem_append_right _ (List.mem_append_right _ (List.mem_append_left _ (List.mem_of_getElem? (i := 27) rfl)))) rfl
theorem kw_191 : Cond.instanceMethod y_G_paint ∈ zz_tbl := zz_mem (List.mem_append_right _ (List.mem_append_right _ (List.mem_append_left _ (List.mem_of_getElem? (i := 25) rfl)))) rfl
theorem kw_192 : Cond.selects "GridFills$Grid" y_G_paint y_G_paint ∈ zz_tbl := zz_mem (List.mem_append_right _ (List.mem_append_right _ (List.mem_append_left _ (List.mem_of_getElem? (i := 26) rfl)))) rfl
theorem kw_193 : Cond.methodLink "GridFills" 47 y_G_cellAt ∈ zz_tbl := zz_mem (List.mem_append_right _ (List.mem_append_right _ (List.mem_append_left _ (List.mem_of_getElem? (i := 23) rfl)))) rfl
theorem kw_194 : Cond.fieldLink "GridFills" 25 "GridFills" "list" "LGridFills$WordList;" ∈ zz_tbl := zz_mem (List.mem_append_right _ (List.mem_append_right _ (List.mem_append_left _ (List.mem_of_getElem? (i := 7) rfl)))) rfl
theorem kw_195 : Cond.methodLink "GridFills" 66 y_L_collect ∈ zz_tbl := zz_mem (List.mem_append_right _ (List.mem_append_right _ (List.mem_append_left _ (List.mem_of_getElem? (i := 39) rfl)))) rfl
theorem kw_196 : Cond.code y_L_collect b_L_collect 2 (some .boolean) ∈ zz_tbl := zz_mem (List.mem_append_right _ (List.mem_append_right _ (List.mem_append_left _ (List.mem_of_getElem? (i := 42) rfl)))) rfl
theorem kw_197 : Cond.instanceMethod y_L_collect ∈ zz_tbl := zz_mem (List.mem_append_right _ (List.mem_append_right _ (List.mem_append_left _ (List.mem_of_getElem? (i := 40) rfl)))) rfl
theorem kw_198 : Cond.selects "GridFills$WordList" y_L_collect y_L_collect ∈ zz_tbl := zz_mem (List.mem_append_right _ (List.mem_append_right _ (List.mem_append_left _ (List.mem_of_getElem? (i := 41) rfl)))) rfl
theorem kw_199 : Cond.methodLink "GridFills" 62 y_X_isLetter ∈ zz_tbl := zz_mem (List.mem_append_right _ (List.mem_append_right _ (List.mem_append_left _ (List.mem_of_getElem? (i := 36) rfl)))) rfl
theorem kw_200 : Cond.code y_X_isLetter b_X_isLetter 1 (some .boolean) ∈ zz_tbl := zz_mem (List.mem_append_right _ (List.mem_append_right _ (List.mem_append_left _ (List.mem_of_getElem? (i := 38) rfl)))) rfl
theorem kw_201 : Cond.initialized "GridFills" ∈ zz_tbl := zz_mem (List.mem_append_right _ (List.mem_append_left _ (List.mem_of_getElem? (i := 1) rfl))) rfl
theorem kw_202 : Cond.static y_X_isLetter ∈ zz_tbl := zz_mem (List.mem_append_right _ (List.mem_append_right _ (List.mem_append_left _ (List.mem_of_getElem? (i := 37) rfl)))) rfl
theorem kw_203 : Cond.methodLink "GridFills" 72 y_L_dropCollected ∈ zz_tbl := zz_mem (List.mem_append_right _ (List.mem_append_right _ (List.mem_append_left _ (List.mem_of_getElem? (i := 86) rfl)))) rfl
theorem kw_204 : Cond.code y_L_dropCollected b_L_dropCollected 1 none ∈ zz_tbl := zz_mem (List.mem_append_right _ (List.mem_append_right _ (List.mem_append_left _ (List.mem_of_getElem? (i := 89) rfl)))) rfl
theorem kw_205 : Cond.instanceMethod y_L_dropCollected ∈ zz_tbl := zz_mem (List.mem_append_right _ (List.mem_append_right _ (List.mem_append_left _ (List.mem_of_getElem? (i := 87) rfl)))) rfl
theorem kw_206 : Cond.selects "GridFills$WordList" y_L_dropCollected y_L_dropCollected ∈ zz_tbl := zz_mem (List.mem_append_right _ (List.mem_append_right _ (List.mem_append_left _ (List.mem_of_getElem? (i := 88) rfl)))) rfl
theorem kw_207 : Cond.methodLink "GridFills" 69 y_L_wordFromCollected ∈ zz_tbl := zz_mem (List.mem_append_right _ (List.mem_append_right _ (List.mem_append_left _ (List.mem_of_getElem? (i := 47) rfl)))) rfl
theorem kw_208 : Cond.code y_L_wordFromCollected b_L_wordFromCollected 3 (some .int) ∈ zz_tbl := zz_mem (List.mem_append_right _ (List.mem_append_right _ (List.mem_append_left _ (List.mem_of_getElem? (i := 50) rfl)))) rfl
theorem kw_209 : Cond.instanceMethod y_L_wordFromCollected ∈ zz_tbl := zz_mem (List.mem_append_right _ (List.mem_append_right _ (List.mem_append_left _ (List.mem_of_getElem? (i := 48) rfl)))) rfl
theorem kw_210 : Cond.selects "GridFills$WordList" y_L_wordFromCollected y_L_wordFromCollected ∈ zz_tbl := zz_mem (List.mem_append_right _ (List.mem_append_right _ (List.mem_append_left _ (List.mem_of_getElem? (i := 49) rfl)))) rfl
theorem kw_211 : Cond.fieldLink "GridFills" 75 "GridFills$Grid" "givenAt" "[I" ∈ zz_tbl := zz_mem (List.mem_append_right _ (List.mem_append_left _ (List.mem_of_getElem? (i := 69) rfl))) rfl
theorem kw_212 : Cond.fieldLink "GridFills" 85 "GridFills$WordList" "lengthOf" "[I" ∈ zz_tbl := zz_mem (List.mem_append_right _ (List.mem_append_left _ (List.mem_of_getElem? (i := 130) rfl))) rfl
theorem kw_213 : Cond.fieldLink "GridFills" 88 "GridFills$Grid" "lengthOf" "[I" ∈ zz_tbl := zz_mem (List.mem_append_right _ (List.mem_append_left _ (List.mem_of_getElem? (i := 80) rfl))) rfl
theorem kw_214 : Cond.methodLink "GridFills" 82 y_L_hasWord ∈ zz_tbl := zz_mem (List.mem_append_right _ (List.mem_append_right _ (List.mem_append_left _ (List.mem_of_getElem? (i := 102) rfl)))) rfl
theorem kw_215 : Cond.code y_L_hasWord b_L_hasWord 2 (some .boolean) ∈ zz_tbl := zz_mem (List.mem_append_right _ (List.mem_append_right _ (List.mem_append_left _ (List.mem_of_getElem? (i := 105) rfl)))) rfl
theorem kw_216 : Cond.instanceMethod y_L_hasWord ∈ zz_tbl := zz_mem (List.mem_append_right _ (List.mem_append_right _ (List.mem_append_left _ (List.mem_of_getElem? (i := 103) rfl)))) rfl
theorem kw_217 : Cond.selects "GridFills$WordList" y_L_hasWord y_L_hasWord ∈ zz_tbl := zz_mem (List.mem_append_right _ (List.mem_append_right _ (List.mem_append_left _ (List.mem_of_getElem? (i := 104) rfl)))) rfl
theorem kw_218 : Cond.methodLink "GridFills" 79 y_G_hasSlot ∈ zz_tbl := zz_mem (List.mem_append_right _ (List.mem_append_right _ (List.mem_append_left _ (List.mem_of_getElem? (i := 98) rfl)))) rfl
theorem kw_219 : Cond.code y_G_hasSlot b_G_hasSlot 2 (some .boolean) ∈ zz_tbl := zz_mem (List.mem_append_right _ (List.mem_append_right _ (List.mem_append_left _ (List.mem_of_getElem? (i := 101) rfl)))) rfl
theorem kw_220 : Cond.instanceMethod y_G_hasSlot ∈ zz_tbl := zz_mem (List.mem_append_right _ (List.mem_append_right _ (List.mem_append_left _ (List.mem_of_getElem? (i := 99) rfl)))) rfl
theorem kw_221 : Cond.selects "GridFills$Grid" y_G_hasSlot y_G_hasSlot ∈ zz_tbl := zz_mem (List.mem_append_right _ (List.mem_append_right _ (List.mem_append_left _ (List.mem_of_getElem? (i := 100) rfl)))) rfl
theorem kw_222 : Cond.fieldLink "GridFills" 89 "GridFills$Grid" "themeOf" "[I" ∈ zz_tbl := zz_mem (List.mem_append_right _ (List.mem_append_left _ (List.mem_of_getElem? (i := 88) rfl))) rfl
theorem kw_223 : Cond.fieldLink "GridFills" 92 "GridFills$Grid" "slotCount" "I" ∈ zz_tbl := zz_mem (List.mem_append_right _ (List.mem_append_left _ (List.mem_of_getElem? (i := 75) rfl))) rfl
theorem kw_224 : Cond.fieldLink "GridFills" 96 "GridFills$Grid" "firstOf" "[I" ∈ zz_tbl := zz_mem (List.mem_append_right _ (List.mem_append_left _ (List.mem_of_getElem? (i := 77) rfl))) rfl
theorem kw_225 : Cond.fieldLink "GridFills" 99 "GridFills$Grid" "directionOf" "[I" ∈ zz_tbl := zz_mem (List.mem_append_right _ (List.mem_append_left _ (List.mem_of_getElem? (i := 84) rfl))) rfl
theorem kw_226 : Cond.fieldLink "GridFills" 43 "GridFills" "search" "LGridFills$Search;" ∈ zz_tbl := zz_mem (List.mem_append_right _ (List.mem_append_right _ (List.mem_append_left _ (List.mem_of_getElem? (i := 9) rfl)))) rfl
theorem kw_227 : Cond.methodLink "GridFills" 102 y_S_countAtStart ∈ zz_tbl := zz_mem (List.mem_append_right _ (List.mem_append_right _ (List.mem_append_left _ (List.mem_of_getElem? (i := 114) rfl)))) rfl
theorem kw_228 : Cond.code y_S_countAtStart b_S_countAtStart 2 (some .int) ∈ zz_tbl := zz_mem (List.mem_append_right _ (List.mem_append_right _ (List.mem_append_left _ (List.mem_of_getElem? (i := 117) rfl)))) rfl
theorem kw_229 : Cond.instanceMethod y_S_countAtStart ∈ zz_tbl := zz_mem (List.mem_append_right _ (List.mem_append_right _ (List.mem_append_left _ (List.mem_of_getElem? (i := 115) rfl)))) rfl
theorem kw_230 : Cond.selects "GridFills$Search" y_S_countAtStart y_S_countAtStart ∈ zz_tbl := zz_mem (List.mem_append_right _ (List.mem_append_right _ (List.mem_append_left _ (List.mem_of_getElem? (i := 116) rfl)))) rfl
theorem kw_231 : Cond.methodLink "GridFills" 105 y_F_wordOf ∈ zz_tbl := zz_mem (List.mem_append_right _ (List.mem_append_right _ (List.mem_append_left _ (List.mem_of_getElem? (i := 136) rfl)))) rfl
theorem kw_232 : Cond.code y_F_wordOf b_F_wordOf 2 (some .int) ∈ zz_tbl := zz_mem (List.mem_append_right _ (List.mem_append_right _ (List.mem_append_left _ (List.mem_of_getElem? (i := 139) rfl)))) rfl
theorem kw_233 : Cond.instanceMethod y_F_wordOf ∈ zz_tbl := zz_mem (List.mem_append_right _ (List.mem_append_right _ (List.mem_append_left _ (List.mem_of_getElem? (i := 137) rfl)))) rfl
theorem kw_234 : Cond.selects "GridFills$Filling" y_F_wordOf y_F_wordOf ∈ zz_tbl := zz_mem (List.mem_append_right _ (List.mem_append_right _ (List.mem_append_left _ (List.mem_of_getElem? (i := 138) rfl)))) rfl
theorem kw_235 : Cond.fieldLink "GridFills" 115 "GridFills$Search" "stepsMade" "I" ∈ zz_tbl := zz_mem (List.mem_append_right _ (List.mem_append_left _ (List.mem_of_getElem? (i := 214) rfl))) rfl
theorem kw_236 : Cond.fieldLink "GridFills" 118 "GridFills$Search" "fillings" "I" ∈ zz_tbl := zz_mem (List.mem_append_right _ (List.mem_append_left _ (List.mem_of_getElem? (i := 216) rfl))) rfl
theorem kw_237 : Cond.fieldLink "GridFills" 121 "GridFills$Filling" "total" "I" ∈ zz_tbl := zz_mem (List.mem_append_right _ (List.mem_append_left _ (List.mem_of_getElem? (i := 185) rfl))) rfl
theorem kw_238 : Cond.methodLink "GridFills" 124 y_F_letterAt ∈ zz_tbl := zz_mem (List.mem_append_right _ (List.mem_append_right _ (List.mem_append_left _ (List.mem_of_getElem? (i := 215) rfl)))) rfl
theorem kw_239 : Cond.code y_F_letterAt b_F_letterAt 3 (some .int) ∈ zz_tbl := zz_mem (List.mem_append_right _ (List.mem_append_right _ (List.mem_append_left _ (List.mem_of_getElem? (i := 218) rfl)))) rfl
theorem kw_240 : Cond.instanceMethod y_F_letterAt ∈ zz_tbl := zz_mem (List.mem_append_right _ (List.mem_append_right _ (List.mem_append_left _ (List.mem_of_getElem? (i := 216) rfl)))) rfl
theorem kw_241 : Cond.selects "GridFills$Filling" y_F_letterAt y_F_letterAt ∈ zz_tbl := zz_mem (List.mem_append_right _ (List.mem_append_right _ (List.mem_append_left _ (List.mem_of_getElem? (i := 217) rfl)))) rfl
theorem kw_242 : Cond.methodLink "GridFills" 127 y_F_firstFault ∈ zz_tbl := zz_mem (List.mem_append_right _ (List.mem_append_right _ (List.mem_append_left _ (List.mem_of_getElem? (i := 230) rfl)))) rfl
theorem kw_243 : Cond.code y_F_firstFault b_F_firstFault 2 (some .int) ∈ zz_tbl := zz_mem (List.mem_append_right _ (List.mem_append_right _ (List.mem_append_left _ (List.mem_of_getElem? (i := 233) rfl)))) rfl
theorem kw_244 : Cond.instanceMethod y_F_firstFault ∈ zz_tbl := zz_mem (List.mem_append_right _ (List.mem_append_right _ (List.mem_append_left _ (List.mem_of_getElem? (i := 231) rfl)))) rfl
theorem kw_245 : Cond.selects "GridFills$Filling" y_F_firstFault y_F_firstFault ∈ zz_tbl := zz_mem (List.mem_append_right _ (List.mem_append_right _ (List.mem_append_left _ (List.mem_of_getElem? (i := 232) rfl)))) rfl
theorem kw_246 : Cond.fieldLink "GridFills" 131 "GridFills$Grid" "width" "I" ∈ zz_tbl := zz_mem (List.mem_append_right _ (List.mem_append_left _ (List.mem_of_getElem? (i := 62) rfl))) rfl
theorem kw_247 : Cond.fieldLink "GridFills" 134 "GridFills$Grid" "height" "I" ∈ zz_tbl := zz_mem (List.mem_append_right _ (List.mem_append_left _ (List.mem_of_getElem? (i := 64) rfl))) rfl
theorem kw_248 : Cond.methodLink "GridFills" 137 y_G_looksTheSame ∈ zz_tbl := zz_mem (List.mem_append_right _ (List.mem_append_right _ (List.mem_append_right _ (List.mem_append_left _ (List.mem_of_getElem? (i := 6) rfl))))) rfl
theorem kw_249 : Cond.code y_G_looksTheSame b_G_looksTheSame 4 (some .boolean) ∈ zz_tbl := zz_mem (List.mem_append_right _ (List.mem_append_right _ (List.mem_append_right _ (List.mem_append_left _ (List.mem_of_getElem? (i := 9) rfl))))) rfl
theorem kw_250 : Cond.instanceMethod y_G_looksTheSame ∈ zz_tbl := zz_mem (List.mem_append_right _ (List.mem_append_right _ (List.mem_append_right _ (List.mem_append_left _ (List.mem_of_getElem? (i := 7) rfl))))) rfl
theorem kw_251 : Cond.selects "GridFills$Grid" y_G_looksTheSame y_G_looksTheSame ∈ zz_tbl := zz_mem (List.mem_append_right _ (List.mem_append_right _ (List.mem_append_right _ (List.mem_append_left _ (List.mem_of_getElem? (i := 8) rfl))))) rfl
theorem kw_252 : Cond.methodLink "GridFills" 140 y_G_countParts ∈ zz_tbl := zz_mem (List.mem_append_right _ (List.mem_append_right _ (List.mem_append_right _ (List.mem_append_left _ (List.mem_of_getElem? (i := 18) rfl))))) rfl
theorem kw_253 : Cond.code y_G_countParts b_G_countParts 4 (some .int) ∈ zz_tbl := zz_mem (List.mem_append_right _ (List.mem_append_right _ (List.mem_append_right _ (List.mem_append_left _ (List.mem_of_getElem? (i := 21) rfl))))) rfl
theorem kw_254 : Cond.instanceMethod y_G_countParts ∈ zz_tbl := zz_mem (List.mem_append_right _ (List.mem_append_right _ (List.mem_append_right _ (List.mem_append_left _ (List.mem_of_getElem? (i := 19) rfl))))) rfl
theorem kw_255 : Cond.selects "GridFills$Grid" y_G_countParts y_G_countParts ∈ zz_tbl := zz_mem (List.mem_append_right _ (List.mem_append_right _ (List.mem_append_right _ (List.mem_append_left _ (List.mem_of_getElem? (i := 20) rfl))))) rfl
theorem kw_256 : Cond.fieldLink "GridFills$Search" 45 "GridFills$Search" "stepsMade" "I" ∈ zz_tbl := zz_mem (List.mem_append_right _ (List.mem_append_left _ (List.mem_of_getElem? (i := 213) rfl))) rfl
theorem kw_257 : Cond.fieldLink "GridFills$Search" 34 "GridFills$Search" "mostSteps" "I" ∈ zz_tbl := zz_mem (List.mem_append_right _ (List.mem_append_left _ (List.mem_of_getElem? (i := 210) rfl))) rfl
theorem kw_258 : Cond.fieldLink "GridFills$Search" 156 "GridFills$WordList" "wordOfRank" "[I" ∈ zz_tbl := zz_mem (List.mem_append_right _ (List.mem_append_left _ (List.mem_of_getElem? (i := 134) rfl))) rfl
theorem kw_259 : Cond.fieldLink "GridFills$Search" 159 "GridFills$WordList" "scoreOf" "[I" ∈ zz_tbl := zz_mem (List.mem_append_right _ (List.mem_append_left _ (List.mem_of_getElem? (i := 132) rfl))) rfl
theorem kw_260 : Cond.methodLink "GridFills$Search" 62 y_S_fillFrom ∈ zz_tbl := zz_mem (List.mem_append_right _ (List.mem_append_right _ (List.mem_append_left _ (List.mem_of_getElem? (i := 156) rfl)))) rfl
theorem kw_261 : Cond.code y_S_fillFrom b_S_fillFrom 10 (some .boolean) ∈ zz_tbl := zz_mem (List.mem_append_right _ (List.mem_append_right _ (List.mem_append_left _ (List.mem_of_getElem? (i := 159) rfl)))) rfl
theorem kw_262 : Cond.instanceMethod y_S_fillFrom ∈ zz_tbl := zz_mem (List.mem_append_right _ (List.mem_append_right _ (List.mem_append_left _ (List.mem_of_getElem? (i := 158) rfl)))) rfl
theorem kw_263 : Cond.selects "GridFills$Search" y_S_fillFrom y_S_fillFrom ∈ zz_tbl := zz_mem (List.mem_append_left _ (List.mem_of_getElem? (i := 11) rfl)) rfl
theorem kw_264 : Cond.methodLink "GridFills$Search" 162 y_S_narrowCrossing ∈ zz_tbl := zz_mem (List.mem_append_right _ (List.mem_append_right _ (List.mem_append_left _ (List.mem_of_getElem? (i := 181) rfl)))) rfl
theorem kw_265 : Cond.code y_S_narrowCrossing b_S_narrowCrossing 11 none ∈ zz_tbl := zz_mem (List.mem_append_right _ (List.mem_append_right _ (List.mem_append_left _ (List.mem_of_getElem? (i := 184) rfl)))) rfl
theorem kw_266 : Cond.instanceMethod y_S_narrowCrossing ∈ zz_tbl := zz_mem (List.mem_append_right _ (List.mem_append_right _ (List.mem_append_left _ (List.mem_of_getElem? (i := 183) rfl)))) rfl
theorem kw_267 : Cond.selects "GridFills$Search" y_S_narrowCrossing y_S_narrowCrossing ∈ zz_tbl := zz_mem (List.mem_append_left _ (List.mem_of_getElem? (i := 15) rfl)) rfl
theorem kw_268 : Cond.fieldLink "GridFills$Search" 42 "GridFills$Search" "ranOut" "Z" ∈ zz_tbl := zz_mem (List.mem_append_right _ (List.mem_append_left _ (List.mem_of_getElem? (i := 212) rfl))) rfl
theorem kw_269 : Cond.methodLink "GridFills$Search" 136 y_S_slotWithFewest ∈ zz_tbl := zz_mem (List.mem_append_right _ (List.mem_append_right _ (List.mem_append_left _ (List.mem_of_getElem? (i := 169) rfl)))) rfl
theorem kw_270 : Cond.code y_S_slotWithFewest b_S_slotWithFewest 7 (some .int) ∈ zz_tbl := zz_mem (List.mem_append_right _ (List.mem_append_right _ (List.mem_append_left _ (List.mem_of_getElem? (i := 172) rfl)))) rfl
theorem kw_271 : Cond.instanceMethod y_S_slotWithFewest ∈ zz_tbl := zz_mem (List.mem_append_right _ (List.mem_append_right _ (List.mem_append_left _ (List.mem_of_getElem? (i := 171) rfl)))) rfl
theorem kw_272 : Cond.selects "GridFills$Search" y_S_slotWithFewest y_S_slotWithFewest ∈ zz_tbl := zz_mem (List.mem_append_left _ (List.mem_of_getElem? (i := 13) rfl)) rfl
theorem kw_273 : Cond.methodLink "GridFills$Search" 132 y_S_takeFilling ∈ zz_tbl := zz_mem (List.mem_append_right _ (List.mem_append_right _ (List.mem_append_left _ (List.mem_of_getElem? (i := 160) rfl)))) rfl
theorem kw_274 : Cond.code y_S_takeFilling b_S_takeFilling 1 (some .boolean) ∈ zz_tbl := zz_mem (List.mem_append_right _ (List.mem_append_right _ (List.mem_append_left _ (List.mem_of_getElem? (i := 163) rfl)))) rfl
theorem kw_275 : Cond.instanceMethod y_S_takeFilling ∈ zz_tbl := zz_mem (List.mem_append_right _ (List.mem_append_right _ (List.mem_append_left _ (List.mem_of_getElem? (i := 162) rfl)))) rfl
theorem kw_276 : Cond.selects "GridFills$Search" y_S_takeFilling y_S_takeFilling ∈ zz_tbl := zz_mem (List.mem_append_left _ (List.mem_of_getElem? (i := 12) rfl)) rfl
theorem kw_277 : Cond.methodLink "GridFills$Search" 145 y_S_tryWord ∈ zz_tbl := zz_mem (List.mem_append_right _ (List.mem_append_right _ (List.mem_append_left _ (List.mem_of_getElem? (i := 177) rfl)))) rfl
theorem kw_278 : Cond.code y_S_tryWord b_S_tryWord 6 (some .boolean) ∈ zz_tbl := zz_mem (List.mem_append_right _ (List.mem_append_right _ (List.mem_append_left _ (List.mem_of_getElem? (i := 180) rfl)))) rfl
theorem kw_279 : Cond.instanceMethod y_S_tryWord ∈ zz_tbl := zz_mem (List.mem_append_right _ (List.mem_append_right _ (List.mem_append_left _ (List.mem_of_getElem? (i := 179) rfl)))) rfl
theorem kw_280 : Cond.selects "GridFills$Search" y_S_tryWord y_S_tryWord ∈ zz_tbl := zz_mem (List.mem_append_left _ (List.mem_of_getElem? (i := 14) rfl)) rfl
theorem kw_281 : Cond.methodLink "GridFills$Search" 142 y_S_lowestBit ∈ zz_tbl := zz_mem (List.mem_append_right _ (List.mem_append_right _ (List.mem_append_left _ (List.mem_of_getElem? (i := 174) rfl)))) rfl
theorem kw_282 : Cond.code y_S_lowestBit b_S_lowestBit 2 (some .int) ∈ zz_tbl := zz_mem (List.mem_append_right _ (List.mem_append_right _ (List.mem_append_left _ (List.mem_of_getElem? (i := 176) rfl)))) rfl
theorem kw_283 : Cond.static y_S_lowestBit ∈ zz_tbl := zz_mem (List.mem_append_right _ (List.mem_append_right _ (List.mem_append_left _ (List.mem_of_getElem? (i := 175) rfl)))) rfl
theorem kw_284 : Cond.methodLink "GridFills$Search" 59 y_S_clearSlots ∈ zz_tbl := zz_mem (List.mem_append_right _ (List.mem_append_right _ (List.mem_append_left _ (List.mem_of_getElem? (i := 152) rfl)))) rfl
theorem kw_285 : Cond.code y_S_clearSlots b_S_clearSlots 2 none ∈ zz_tbl := zz_mem (List.mem_append_right _ (List.mem_append_right _ (List.mem_append_left _ (List.mem_of_getElem? (i := 155) rfl)))) rfl
theorem kw_286 : Cond.instanceMethod y_S_clearSlots ∈ zz_tbl := zz_mem (List.mem_append_right _ (List.mem_append_right _ (List.mem_append_left _ (List.mem_of_getElem? (i := 154) rfl)))) rfl
theorem kw_287 : Cond.selects "GridFills$Search" y_S_clearSlots y_S_clearSlots ∈ zz_tbl := zz_mem (List.mem_append_left _ (List.mem_of_getElem? (i := 10) rfl)) rfl
theorem kw_288 : Cond.methodLink "GridFills$Search" 54 y_F_forget ∈ zz_tbl := zz_mem (List.mem_append_right _ (List.mem_append_right _ (List.mem_append_left _ (List.mem_of_getElem? (i := 151) rfl)))) rfl
theorem kw_289 : Cond.methodLink "GridFills" 111 y_S_seek ∈ zz_tbl := zz_mem (List.mem_append_right _ (List.mem_append_right _ (List.mem_append_left _ (List.mem_of_getElem? (i := 147) rfl)))) rfl
theorem kw_290 : Cond.code y_S_seek b_S_seek 3 (some .int) ∈ zz_tbl := zz_mem (List.mem_append_right _ (List.mem_append_right _ (List.mem_append_left _ (List.mem_of_getElem? (i := 150) rfl)))) rfl
theorem kw_291 : Cond.instanceMethod y_S_seek ∈ zz_tbl := zz_mem (List.mem_append_right _ (List.mem_append_right _ (List.mem_append_left _ (List.mem_of_getElem? (i := 148) rfl)))) rfl
theorem kw_292 : Cond.selects "GridFills$Search" y_S_seek y_S_seek ∈ zz_tbl := zz_mem (List.mem_append_right _ (List.mem_append_right _ (List.mem_append_left _ (List.mem_of_getElem? (i := 149) rfl)))) rfl
theorem kw_293 : Cond.methodLink "GridFills" 108 y_X_isStepLimit ∈ zz_tbl := zz_mem (List.mem_append_right _ (List.mem_append_right _ (List.mem_append_left _ (List.mem_of_getElem? (i := 144) rfl)))) rfl
theorem kw_294 : Cond.code y_X_isStepLimit b_X_isStepLimit 1 (some .boolean) ∈ zz_tbl := zz_mem (List.mem_append_right _ (List.mem_append_right _ (List.mem_append_left _ (List.mem_of_getElem? (i := 146) rfl)))) rfl
theorem kw_295 : Cond.static y_X_isStepLimit ∈ zz_tbl := zz_mem (List.mem_append_right _ (List.mem_append_right _ (List.mem_append_left _ (List.mem_of_getElem? (i := 145) rfl)))) rfl
theorem kw_296 : Cond.fieldLink "GridFillsModel" 65 "GridFillsModel" "width" "I" ∈ zz_tbl := zz_mem (List.mem_append_right _ (List.mem_append_right _ (List.mem_append_right _ (List.mem_append_left _ (List.mem_of_getElem? (i := 48) rfl))))) rfl
theorem kw_297 : Cond.fieldLink "GridFillsModel" 69 "GridFillsModel" "height" "I" ∈ zz_tbl := zz_mem (List.mem_append_right _ (List.mem_append_right _ (List.mem_append_right _ (List.mem_append_left _ (List.mem_of_getElem? (i := 49) rfl))))) rfl
theorem kw_298 : Cond.fieldLink "GridFillsModel" 7 "GridFillsModel" "isBlack" "[Z" ∈ zz_tbl := zz_mem (List.mem_append_right _ (List.mem_append_right _ (List.mem_append_right _ (List.mem_append_left _ (List.mem_of_getElem? (i := 50) rfl))))) rfl
theorem kw_299 : Cond.methodLink "GridFillsModel" 78 y_M_isCell ∈ zz_tbl := zz_mem (List.mem_append_right _ (List.mem_append_right _ (List.mem_append_right _ (List.mem_append_left _ (List.mem_of_getElem? (i := 43) rfl))))) rfl
theorem kw_300 : Cond.code y_M_isCell b_M_isCell 3 (some .boolean) ∈ zz_tbl := zz_mem (List.mem_append_right _ (List.mem_append_right _ (List.mem_append_right _ (List.mem_append_left _ (List.mem_of_getElem? (i := 46) rfl))))) rfl
theorem kw_301 : Cond.initialized "GridFillsModel" ∈ zz_tbl := zz_mem (List.mem_append_right _ (List.mem_append_left _ (List.mem_of_getElem? (i := 8) rfl))) rfl
theorem kw_302 : Cond.instanceMethod y_M_isCell ∈ zz_tbl := zz_mem (List.mem_append_right _ (List.mem_append_right _ (List.mem_append_right _ (List.mem_append_left _ (List.mem_of_getElem? (i := 45) rfl))))) rfl
theorem kw_303 : Cond.selects "GridFillsModel" y_M_isCell y_M_isCell ∈ zz_tbl := zz_mem (List.mem_append_left _ (List.mem_of_getElem? (i := 22) rfl)) rfl
theorem kw_304 : Cond.fieldLink "GridFillsModel" 82 "GridFillsModel" "slots" "I" ∈ zz_tbl := zz_mem (List.mem_append_right _ (List.mem_append_right _ (List.mem_append_right _ (List.mem_append_left _ (List.mem_of_getElem? (i := 58) rfl))))) rfl
theorem kw_305 : Cond.fieldLink "GridFillsModel" 85 "GridFillsModel" "rightOnes" "I" ∈ zz_tbl := zz_mem (List.mem_append_right _ (List.mem_append_right _ (List.mem_append_right _ (List.mem_append_left _ (List.mem_of_getElem? (i := 63) rfl))))) rfl
theorem kw_306 : Cond.fieldLink "GridFillsModel" 29 "GridFillsModel" "begins" "[I" ∈ zz_tbl := zz_mem (List.mem_append_right _ (List.mem_append_right _ (List.mem_append_right _ (List.mem_append_left _ (List.mem_of_getElem? (i := 59) rfl))))) rfl
theorem kw_307 : Cond.fieldLink "GridFillsModel" 32 "GridFillsModel" "sizes" "[I" ∈ zz_tbl := zz_mem (List.mem_append_right _ (List.mem_append_right _ (List.mem_append_right _ (List.mem_append_left _ (List.mem_of_getElem? (i := 60) rfl))))) rfl
theorem kw_308 : Cond.fieldLink "GridFillsModel" 35 "GridFillsModel" "ways" "[I" ∈ zz_tbl := zz_mem (List.mem_append_right _ (List.mem_append_right _ (List.mem_append_right _ (List.mem_append_left _ (List.mem_of_getElem? (i := 61) rfl))))) rfl
theorem kw_309 : Cond.methodLink "GridFillsModel" 88 y_M_isOpen ∈ zz_tbl := zz_mem (List.mem_append_right _ (List.mem_append_right _ (List.mem_append_right _ (List.mem_append_left _ (List.mem_of_getElem? (i := 39) rfl))))) rfl
theorem kw_310 : Cond.code y_M_isOpen b_M_isOpen 3 (some .boolean) ∈ zz_tbl := zz_mem (List.mem_append_right _ (List.mem_append_right _ (List.mem_append_right _ (List.mem_append_left _ (List.mem_of_getElem? (i := 42) rfl))))) rfl
theorem kw_311 : Cond.instanceMethod y_M_isOpen ∈ zz_tbl := zz_mem (List.mem_append_right _ (List.mem_append_right _ (List.mem_append_right _ (List.mem_append_left _ (List.mem_of_getElem? (i := 41) rfl))))) rfl
theorem kw_312 : Cond.selects "GridFillsModel" y_M_isOpen y_M_isOpen ∈ zz_tbl := zz_mem (List.mem_append_left _ (List.mem_of_getElem? (i := 21) rfl)) rfl
theorem kw_313 : Cond.fieldLink "GridFillsModel" 38 "GridFillsModel" "themes" "[I" ∈ zz_tbl := zz_mem (List.mem_append_right _ (List.mem_append_right _ (List.mem_append_right _ (List.mem_append_left _ (List.mem_of_getElem? (i := 62) rfl))))) rfl
theorem kw_314 : Cond.fieldLink "GridFillsModel" 75 "GridFillsModel" "thrown" "I" ∈ zz_tbl := zz_mem (List.mem_append_right _ (List.mem_append_right _ (List.mem_append_right _ (List.mem_append_left _ (List.mem_of_getElem? (i := 47) rfl))))) rfl
theorem kw_315 : Cond.methodLink "GridFillsModel" 72 y_M_findSlots ∈ zz_tbl := zz_mem (List.mem_append_right _ (List.mem_append_right _ (List.mem_append_right _ (List.mem_append_left _ (List.mem_of_getElem? (i := 35) rfl))))) rfl
theorem kw_316 : Cond.code y_M_findSlots b_M_findSlots 7 none ∈ zz_tbl := zz_mem (List.mem_append_right _ (List.mem_append_right _ (List.mem_append_right _ (List.mem_append_left _ (List.mem_of_getElem? (i := 38) rfl))))) rfl
theorem kw_317 : Cond.instanceMethod y_M_findSlots ∈ zz_tbl := zz_mem (List.mem_append_right _ (List.mem_append_right _ (List.mem_append_right _ (List.mem_append_left _ (List.mem_of_getElem? (i := 37) rfl))))) rfl
theorem kw_318 : Cond.selects "GridFillsModel" y_M_findSlots y_M_findSlots ∈ zz_tbl := zz_mem (List.mem_append_left _ (List.mem_of_getElem? (i := 20) rfl)) rfl
theorem kw_319 : Cond.fieldLink "GridFillsModel" 91 "GridFillsModel" "isFound" "Z" ∈ zz_tbl := zz_mem (List.mem_append_right _ (List.mem_append_right _ (List.mem_append_right _ (List.mem_append_left _ (List.mem_of_getElem? (i := 66) rfl))))) rfl
theorem kw_320 : Cond.fieldLink "GridFillsModel" 13 "GridFillsModel" "givens" "[I" ∈ zz_tbl := zz_mem (List.mem_append_right _ (List.mem_append_right _ (List.mem_append_right _ (List.mem_append_left _ (List.mem_of_getElem? (i := 51) rfl))))) rfl
theorem kw_321 : Cond.fieldLink "GridFillsModel" 99 "GridFillsModel" "collected" "I" ∈ zz_tbl := zz_mem (List.mem_append_right _ (List.mem_append_right _ (List.mem_append_right _ (List.mem_append_left _ (List.mem_of_getElem? (i := 52) rfl))))) rfl
theorem kw_322 : Cond.fieldLink "GridFillsModel" 17 "GridFillsModel" "row" "[I" ∈ zz_tbl := zz_mem (List.mem_append_right _ (List.mem_append_right _ (List.mem_append_right _ (List.mem_append_left _ (List.mem_of_getElem? (i := 53) rfl))))) rfl
theorem kw_323 : Cond.methodLink "GridFillsModel" 95 y_M_isLetter ∈ zz_tbl := zz_mem (List.mem_append_right _ (List.mem_append_right _ (List.mem_append_right _ (List.mem_append_left _ (List.mem_of_getElem? (i := 140) rfl))))) rfl
theorem kw_324 : Cond.code y_M_isLetter b_M_isLetter 1 (some .boolean) ∈ zz_tbl := zz_mem (List.mem_append_right _ (List.mem_append_right _ (List.mem_append_right _ (List.mem_append_left _ (List.mem_of_getElem? (i := 142) rfl))))) rfl
theorem kw_325 : Cond.static y_M_isLetter ∈ zz_tbl := zz_mem (List.mem_append_right _ (List.mem_append_right _ (List.mem_append_right _ (List.mem_append_left _ (List.mem_of_getElem? (i := 141) rfl))))) rfl
theorem kw_326 : Cond.fieldLink "GridFillsModel" 20 "GridFillsModel" "lengths" "[I" ∈ zz_tbl := zz_mem (List.mem_append_right _ (List.mem_append_right _ (List.mem_append_right _ (List.mem_append_left _ (List.mem_of_getElem? (i := 55) rfl))))) rfl
theorem kw_327 : Cond.fieldLink "GridFillsModel" 23 "GridFillsModel" "letters" "[I" ∈ zz_tbl := zz_mem (List.mem_append_right _ (List.mem_append_right _ (List.mem_append_right _ (List.mem_append_left _ (List.mem_of_getElem? (i := 56) rfl))))) rfl
theorem kw_328 : Cond.fieldLink "GridFillsModel" 102 "GridFillsModel" "words" "I" ∈ zz_tbl := zz_mem (List.mem_append_right _ (List.mem_append_right _ (List.mem_append_right _ (List.mem_append_left _ (List.mem_of_getElem? (i := 54) rfl))))) rfl
theorem kw_329 : Cond.methodLink "GridFillsModel" 105 y_M_isRow ∈ zz_tbl := zz_mem (List.mem_append_right _ (List.mem_append_right _ (List.mem_append_right _ (List.mem_append_left _ (List.mem_of_getElem? (i := 151) rfl))))) rfl
theorem kw_330 : Cond.code y_M_isRow b_M_isRow 3 (some .boolean) ∈ zz_tbl := zz_mem (List.mem_append_right _ (List.mem_append_right _ (List.mem_append_right _ (List.mem_append_left _ (List.mem_of_getElem? (i := 154) rfl))))) rfl
theorem kw_331 : Cond.instanceMethod y_M_isRow ∈ zz_tbl := zz_mem (List.mem_append_right _ (List.mem_append_right _ (List.mem_append_right _ (List.mem_append_left _ (List.mem_of_getElem? (i := 153) rfl))))) rfl
theorem kw_332 : Cond.selects "GridFillsModel" y_M_isRow y_M_isRow ∈ zz_tbl := zz_mem (List.mem_append_left _ (List.mem_of_getElem? (i := 24) rfl)) rfl
theorem kw_333 : Cond.fieldLink "GridFillsModel" 26 "GridFillsModel" "scores" "[I" ∈ zz_tbl := zz_mem (List.mem_append_right _ (List.mem_append_right _ (List.mem_append_right _ (List.mem_append_left _ (List.mem_of_getElem? (i := 57) rfl))))) rfl
theorem kw_334 : Cond.methodLink "GridFillsModel" 108 y_M_enter ∈ zz_tbl := zz_mem (List.mem_append_right _ (List.mem_append_right _ (List.mem_append_right _ (List.mem_append_left _ (List.mem_of_getElem? (i := 147) rfl))))) rfl
theorem kw_335 : Cond.code y_M_enter b_M_enter 3 (some .int) ∈ zz_tbl := zz_mem (List.mem_append_right _ (List.mem_append_right _ (List.mem_append_right _ (List.mem_append_left _ (List.mem_of_getElem? (i := 150) rfl))))) rfl
theorem kw_336 : Cond.instanceMethod y_M_enter ∈ zz_tbl := zz_mem (List.mem_append_right _ (List.mem_append_right _ (List.mem_append_right _ (List.mem_append_left _ (List.mem_of_getElem? (i := 149) rfl))))) rfl
theorem kw_337 : Cond.selects "GridFillsModel" y_M_enter y_M_enter ∈ zz_tbl := zz_mem (List.mem_append_left _ (List.mem_of_getElem? (i := 23) rfl)) rfl
theorem kw_338 : Cond.methodLink "GridFillsModel" 112 y_M_isSlot ∈ zz_tbl := zz_mem (List.mem_append_right _ (List.mem_append_right _ (List.mem_append_right _ (List.mem_append_left _ (List.mem_of_getElem? (i := 163) rfl))))) rfl
theorem kw_339 : Cond.code y_M_isSlot b_M_isSlot 2 (some .boolean) ∈ zz_tbl := zz_mem (List.mem_append_right _ (List.mem_append_right _ (List.mem_append_right _ (List.mem_append_left _ (List.mem_of_getElem? (i := 166) rfl))))) rfl
theorem kw_340 : Cond.instanceMethod y_M_isSlot ∈ zz_tbl := zz_mem (List.mem_append_right _ (List.mem_append_right _ (List.mem_append_right _ (List.mem_append_left _ (List.mem_of_getElem? (i := 165) rfl))))) rfl
theorem kw_341 : Cond.selects "GridFillsModel" y_M_isSlot y_M_isSlot ∈ zz_tbl := zz_mem (List.mem_append_left _ (List.mem_of_getElem? (i := 25) rfl)) rfl
theorem kw_342 : Cond.fieldLink "GridFillsModel" 47 "GridFillsModel" "cells" "[I" ∈ zz_tbl := zz_mem (List.mem_append_right _ (List.mem_append_right _ (List.mem_append_right _ (List.mem_append_left _ (List.mem_of_getElem? (i := 69) rfl))))) rfl
theorem kw_343 : Cond.fieldLink "GridFillsModel" 41 "GridFillsModel" "now" "[I" ∈ zz_tbl := zz_mem (List.mem_append_right _ (List.mem_append_right _ (List.mem_append_right _ (List.mem_append_left _ (List.mem_of_getElem? (i := 64) rfl))))) rfl
theorem kw_344 : Cond.methodLink "GridFillsModel" 115 y_M_cellOf ∈ zz_tbl := zz_mem (List.mem_append_right _ (List.mem_append_right _ (List.mem_append_right _ (List.mem_append_left _ (List.mem_of_getElem? (i := 183) rfl))))) rfl
theorem kw_345 : Cond.code y_M_cellOf b_M_cellOf 3 (some .int) ∈ zz_tbl := zz_mem (List.mem_append_right _ (List.mem_append_right _ (List.mem_append_right _ (List.mem_append_left _ (List.mem_of_getElem? (i := 186) rfl))))) rfl
theorem kw_346 : Cond.instanceMethod y_M_cellOf ∈ zz_tbl := zz_mem (List.mem_append_right _ (List.mem_append_right _ (List.mem_append_right _ (List.mem_append_left _ (List.mem_of_getElem? (i := 185) rfl))))) rfl
theorem kw_347 : Cond.selects "GridFillsModel" y_M_cellOf y_M_cellOf ∈ zz_tbl := zz_mem (List.mem_append_left _ (List.mem_of_getElem? (i := 28) rfl)) rfl
theorem kw_348 : Cond.methodLink "GridFillsModel" 119 y_M_isUsed ∈ zz_tbl := zz_mem (List.mem_append_right _ (List.mem_append_right _ (List.mem_append_right _ (List.mem_append_left _ (List.mem_of_getElem? (i := 195) rfl))))) rfl
theorem kw_349 : Cond.code y_M_isUsed b_M_isUsed 3 (some .boolean) ∈ zz_tbl := zz_mem (List.mem_append_right _ (List.mem_append_right _ (List.mem_append_right _ (List.mem_append_left _ (List.mem_of_getElem? (i := 198) rfl))))) rfl
theorem kw_350 : Cond.instanceMethod y_M_isUsed ∈ zz_tbl := zz_mem (List.mem_append_right _ (List.mem_append_right _ (List.mem_append_right _ (List.mem_append_left _ (List.mem_of_getElem? (i := 197) rfl))))) rfl
theorem kw_351 : Cond.selects "GridFillsModel" y_M_isUsed y_M_isUsed ∈ zz_tbl := zz_mem (List.mem_append_left _ (List.mem_of_getElem? (i := 31) rfl)) rfl
theorem kw_352 : Cond.methodLink "GridFillsModel" 122 y_M_mayHave ∈ zz_tbl := zz_mem (List.mem_append_right _ (List.mem_append_right _ (List.mem_append_right _ (List.mem_append_left _ (List.mem_of_getElem? (i := 191) rfl))))) rfl
theorem kw_353 : Cond.code y_M_mayHave b_M_mayHave 5 (some .boolean) ∈ zz_tbl := zz_mem (List.mem_append_right _ (List.mem_append_right _ (List.mem_append_right _ (List.mem_append_left _ (List.mem_of_getElem? (i := 194) rfl))))) rfl
theorem kw_354 : Cond.instanceMethod y_M_mayHave ∈ zz_tbl := zz_mem (List.mem_append_right _ (List.mem_append_right _ (List.mem_append_right _ (List.mem_append_left _ (List.mem_of_getElem? (i := 193) rfl))))) rfl
theorem kw_355 : Cond.selects "GridFillsModel" y_M_mayHave y_M_mayHave ∈ zz_tbl := zz_mem (List.mem_append_left _ (List.mem_of_getElem? (i := 30) rfl)) rfl
theorem kw_356 : Cond.methodLink "GridFillsModel" 131 y_M_countFor ∈ zz_tbl := zz_mem (List.mem_append_right _ (List.mem_append_right _ (List.mem_append_right _ (List.mem_append_left _ (List.mem_of_getElem? (i := 187) rfl))))) rfl
theorem kw_357 : Cond.code y_M_countFor b_M_countFor 4 (some .int) ∈ zz_tbl := zz_mem (List.mem_append_right _ (List.mem_append_right _ (List.mem_append_right _ (List.mem_append_left _ (List.mem_of_getElem? (i := 190) rfl))))) rfl
theorem kw_358 : Cond.instanceMethod y_M_countFor ∈ zz_tbl := zz_mem (List.mem_append_right _ (List.mem_append_right _ (List.mem_append_right _ (List.mem_append_left _ (List.mem_of_getElem? (i := 189) rfl))))) rfl
theorem kw_359 : Cond.selects "GridFillsModel" y_M_countFor y_M_countFor ∈ zz_tbl := zz_mem (List.mem_append_left _ (List.mem_of_getElem? (i := 29) rfl)) rfl
theorem kw_360 : Cond.methodLink "GridFillsModel" 128 y_M_spell ∈ zz_tbl := zz_mem (List.mem_append_right _ (List.mem_append_right _ (List.mem_append_right _ (List.mem_append_left _ (List.mem_of_getElem? (i := 179) rfl))))) rfl
theorem kw_361 : Cond.code y_M_spell b_M_spell 3 none ∈ zz_tbl := zz_mem (List.mem_append_right _ (List.mem_append_right _ (List.mem_append_right _ (List.mem_append_left _ (List.mem_of_getElem? (i := 182) rfl))))) rfl
theorem kw_362 : Cond.instanceMethod y_M_spell ∈ zz_tbl := zz_mem (List.mem_append_right _ (List.mem_append_right _ (List.mem_append_right _ (List.mem_append_left _ (List.mem_of_getElem? (i := 181) rfl))))) rfl
theorem kw_363 : Cond.selects "GridFillsModel" y_M_spell y_M_spell ∈ zz_tbl := zz_mem (List.mem_append_left _ (List.mem_of_getElem? (i := 27) rfl)) rfl
theorem kw_364 : Cond.methodLink "GridFillsModel" 125 y_M_clearNow ∈ zz_tbl := zz_mem (List.mem_append_right _ (List.mem_append_right _ (List.mem_append_right _ (List.mem_append_left _ (List.mem_of_getElem? (i := 175) rfl))))) rfl
theorem kw_365 : Cond.code y_M_clearNow b_M_clearNow 2 none ∈ zz_tbl := zz_mem (List.mem_append_right _ (List.mem_append_right _ (List.mem_append_right _ (List.mem_append_left _ (List.mem_of_getElem? (i := 178) rfl))))) rfl
theorem kw_366 : Cond.instanceMethod y_M_clearNow ∈ zz_tbl := zz_mem (List.mem_append_right _ (List.mem_append_right _ (List.mem_append_right _ (List.mem_append_left _ (List.mem_of_getElem? (i := 177) rfl))))) rfl
theorem kw_367 : Cond.selects "GridFillsModel" y_M_clearNow y_M_clearNow ∈ zz_tbl := zz_mem (List.mem_append_left _ (List.mem_of_getElem? (i := 26) rfl)) rfl
theorem kw_368 : Cond.fieldLink "GridFillsModel" 44 "GridFillsModel" "found" "[I" ∈ zz_tbl := zz_mem (List.mem_append_right _ (List.mem_append_right _ (List.mem_append_right _ (List.mem_append_left _ (List.mem_of_getElem? (i := 65) rfl))))) rfl
theorem kw_369 : Cond.fieldLink "GridFillsModel" 50 "GridFillsModel" "slotAt" "[I" ∈ zz_tbl := zz_mem (List.mem_append_right _ (List.mem_append_right _ (List.mem_append_right _ (List.mem_append_left _ (List.mem_of_getElem? (i := 70) rfl))))) rfl
theorem kw_370 : Cond.fieldLink "GridFillsModel" 56 "GridFillsModel" "triedAt" "[I" ∈ zz_tbl := zz_mem (List.mem_append_right _ (List.mem_append_right _ (List.mem_append_right _ (List.mem_append_left _ (List.mem_of_getElem? (i := 72) rfl))))) rfl
theorem kw_371 : Cond.fieldLink "GridFillsModel" 53 "GridFillsModel" "manyAt" "[I" ∈ zz_tbl := zz_mem (List.mem_append_right _ (List.mem_append_right _ (List.mem_append_right _ (List.mem_append_left _ (List.mem_of_getElem? (i := 71) rfl))))) rfl
theorem kw_372 : Cond.fieldLink "GridFillsModel" 59 "GridFillsModel" "choices" "[I" ∈ zz_tbl := zz_mem (List.mem_append_right _ (List.mem_append_right _ (List.mem_append_right _ (List.mem_append_left _ (List.mem_of_getElem? (i := 73) rfl))))) rfl
theorem kw_373 : Cond.methodLink "GridFillsModel" 134 y_M_isBefore ∈ zz_tbl := zz_mem (List.mem_append_right _ (List.mem_append_right _ (List.mem_append_right _ (List.mem_append_left _ (List.mem_of_getElem? (i := 211) rfl))))) rfl
theorem kw_374 : Cond.code y_M_isBefore b_M_isBefore 3 (some .boolean) ∈ zz_tbl := zz_mem (List.mem_append_right _ (List.mem_append_right _ (List.mem_append_right _ (List.mem_append_left _ (List.mem_of_getElem? (i := 214) rfl))))) rfl
theorem kw_375 : Cond.instanceMethod y_M_isBefore ∈ zz_tbl := zz_mem (List.mem_append_right _ (List.mem_append_right _ (List.mem_append_right _ (List.mem_append_left _ (List.mem_of_getElem? (i := 213) rfl))))) rfl
theorem kw_376 : Cond.selects "GridFillsModel" y_M_isBefore y_M_isBefore ∈ zz_tbl := zz_mem (List.mem_append_left _ (List.mem_of_getElem? (i := 34) rfl)) rfl
theorem kw_377 : Cond.fieldLink "GridFillsModel" 140 "GridFillsModel" "many" "I" ∈ zz_tbl := zz_mem (List.mem_append_right _ (List.mem_append_right _ (List.mem_append_right _ (List.mem_append_left _ (List.mem_of_getElem? (i := 68) rfl))))) rfl
theorem kw_378 : Cond.fieldLink "GridFillsModel" 137 "GridFillsModel" "steps" "I" ∈ zz_tbl := zz_mem (List.mem_append_right _ (List.mem_append_right _ (List.mem_append_right _ (List.mem_append_left _ (List.mem_of_getElem? (i := 67) rfl))))) rfl
theorem kw_379 : Cond.methodLink "GridFillsModel" 146 y_M_sumNow ∈ zz_tbl := zz_mem (List.mem_append_right _ (List.mem_append_right _ (List.mem_append_right _ (List.mem_append_left _ (List.mem_of_getElem? (i := 215) rfl))))) rfl
theorem kw_380 : Cond.code y_M_sumNow b_M_sumNow 3 (some .int) ∈ zz_tbl := zz_mem (List.mem_append_right _ (List.mem_append_right _ (List.mem_append_right _ (List.mem_append_left _ (List.mem_of_getElem? (i := 218) rfl))))) rfl
theorem kw_381 : Cond.instanceMethod y_M_sumNow ∈ zz_tbl := zz_mem (List.mem_append_right _ (List.mem_append_right _ (List.mem_append_right _ (List.mem_append_left _ (List.mem_of_getElem? (i := 217) rfl))))) rfl
theorem kw_382 : Cond.selects "GridFillsModel" y_M_sumNow y_M_sumNow ∈ zz_tbl := zz_mem (List.mem_append_left _ (List.mem_of_getElem? (i := 35) rfl)) rfl
theorem kw_383 : Cond.methodLink "GridFillsModel" 143 y_M_open ∈ zz_tbl := zz_mem (List.mem_append_right _ (List.mem_append_right _ (List.mem_append_right _ (List.mem_append_left _ (List.mem_of_getElem? (i := 207) rfl))))) rfl
theorem kw_384 : Cond.code y_M_open b_M_open 7 (some .boolean) ∈ zz_tbl := zz_mem (List.mem_append_right _ (List.mem_append_right _ (List.mem_append_right _ (List.mem_append_left _ (List.mem_of_getElem? (i := 210) rfl))))) rfl
theorem kw_385 : Cond.instanceMethod y_M_open ∈ zz_tbl := zz_mem (List.mem_append_right _ (List.mem_append_right _ (List.mem_append_right _ (List.mem_append_left _ (List.mem_of_getElem? (i := 209) rfl))))) rfl
theorem kw_386 : Cond.selects "GridFillsModel" y_M_open y_M_open ∈ zz_tbl := zz_mem (List.mem_append_left _ (List.mem_of_getElem? (i := 33) rfl)) rfl
theorem kw_387 : Cond.methodLink "GridFillsModel" 150 y_M_search ∈ zz_tbl := zz_mem (List.mem_append_right _ (List.mem_append_right _ (List.mem_append_right _ (List.mem_append_left _ (List.mem_of_getElem? (i := 203) rfl))))) rfl
theorem kw_388 : Cond.code y_M_search b_M_search 7 (some .int) ∈ zz_tbl := zz_mem (List.mem_append_right _ (List.mem_append_right _ (List.mem_append_right _ (List.mem_append_left _ (List.mem_of_getElem? (i := 206) rfl))))) rfl
theorem kw_389 : Cond.instanceMethod y_M_search ∈ zz_tbl := zz_mem (List.mem_append_right _ (List.mem_append_right _ (List.mem_append_right _ (List.mem_append_left _ (List.mem_of_getElem? (i := 205) rfl))))) rfl
theorem kw_390 : Cond.selects "GridFillsModel" y_M_search y_M_search ∈ zz_tbl := zz_mem (List.mem_append_left _ (List.mem_of_getElem? (i := 32) rfl)) rfl
theorem kw_391 : Cond.fieldLink "GridFillsModel" 62 "GridFillsModel" "seen" "[Z" ∈ zz_tbl := zz_mem (List.mem_append_right _ (List.mem_append_right _ (List.mem_append_right _ (List.mem_append_left _ (List.mem_of_getElem? (i := 74) rfl))))) rfl
theorem kw_392 : Cond.methodLink "GridFillsModel" 154 y_M_isSeen ∈ zz_tbl := zz_mem (List.mem_append_right _ (List.mem_append_right _ (List.mem_append_right _ (List.mem_append_right _ (List.mem_of_getElem? (i := 11) rfl))))) rfl
theorem kw_393 : Cond.code y_M_isSeen b_M_isSeen 3 (some .boolean) ∈ zz_tbl := zz_mem (List.mem_append_right _ (List.mem_append_right _ (List.mem_append_right _ (List.mem_append_right _ (List.mem_of_getElem? (i := 14) rfl))))) rfl
theorem kw_394 : Cond.instanceMethod y_M_isSeen ∈ zz_tbl := zz_mem (List.mem_append_right _ (List.mem_append_right _ (List.mem_append_right _ (List.mem_append_right _ (List.mem_of_getElem? (i := 13) rfl))))) rfl
theorem kw_395 : Cond.selects "GridFillsModel" y_M_isSeen y_M_isSeen ∈ zz_tbl := zz_mem (List.mem_append_left _ (List.mem_of_getElem? (i := 36) rfl)) rfl
theorem kw_396 : Cond.methodLink "GridFillsLaw" 30 y_M_unit ∈ zz_tbl := zz_mem (List.mem_append_right _ (List.mem_append_right _ (List.mem_append_right _ (List.mem_append_left _ (List.mem_of_getElem? (i := 136) rfl))))) rfl
theorem kw_397 : Cond.code y_M_unit b_M_unit 2 (some .boolean) ∈ zz_tbl := zz_mem (List.mem_append_right _ (List.mem_append_right _ (List.mem_append_right _ (List.mem_append_left _ (List.mem_of_getElem? (i := 139) rfl))))) rfl
theorem kw_398 : Cond.instanceMethod y_M_unit ∈ zz_tbl := zz_mem (List.mem_append_right _ (List.mem_append_right _ (List.mem_append_right _ (List.mem_append_left _ (List.mem_of_getElem? (i := 137) rfl))))) rfl
theorem kw_399 : Cond.selects "GridFillsModel" y_M_unit y_M_unit ∈ zz_tbl := zz_mem (List.mem_append_right _ (List.mem_append_right _ (List.mem_append_right _ (List.mem_append_left _ (List.mem_of_getElem? (i := 138) rfl))))) rfl
theorem kw_400 : Cond.methodLink "GridFillsLaw" 26 y_X_unit ∈ zz_tbl := zz_mem (List.mem_append_right _ (List.mem_append_right _ (List.mem_append_left _ (List.mem_of_getElem? (i := 32) rfl)))) rfl
theorem kw_401 : Cond.code y_X_unit b_X_unit 2 (some .boolean) ∈ zz_tbl := zz_mem (List.mem_append_right _ (List.mem_append_right _ (List.mem_append_left _ (List.mem_of_getElem? (i := 35) rfl)))) rfl
theorem kw_402 : Cond.instanceMethod y_X_unit ∈ zz_tbl := zz_mem (List.mem_append_right _ (List.mem_append_right _ (List.mem_append_left _ (List.mem_of_getElem? (i := 33) rfl)))) rfl
theorem kw_403 : Cond.selects "GridFills" y_X_unit y_X_unit ∈ zz_tbl := zz_mem (List.mem_append_right _ (List.mem_append_right _ (List.mem_append_left _ (List.mem_of_getElem? (i := 34) rfl)))) rfl
theorem kw_404 : Cond.methodLink "GridFillsLaw" 35 y_M_word ∈ zz_tbl := zz_mem (List.mem_append_right _ (List.mem_append_right _ (List.mem_append_right _ (List.mem_append_left _ (List.mem_of_getElem? (i := 143) rfl))))) rfl
theorem kw_405 : Cond.code y_M_word b_M_word 3 (some .int) ∈ zz_tbl := zz_mem (List.mem_append_right _ (List.mem_append_right _ (List.mem_append_right _ (List.mem_append_left _ (List.mem_of_getElem? (i := 146) rfl))))) rfl
theorem kw_406 : Cond.instanceMethod y_M_word ∈ zz_tbl := zz_mem (List.mem_append_right _ (List.mem_append_right _ (List.mem_append_right _ (List.mem_append_left _ (List.mem_of_getElem? (i := 144) rfl))))) rfl
theorem kw_407 : Cond.selects "GridFillsModel" y_M_word y_M_word ∈ zz_tbl := zz_mem (List.mem_append_right _ (List.mem_append_right _ (List.mem_append_right _ (List.mem_append_left _ (List.mem_of_getElem? (i := 145) rfl))))) rfl
theorem kw_408 : Cond.methodLink "GridFillsLaw" 31 y_X_word ∈ zz_tbl := zz_mem (List.mem_append_right _ (List.mem_append_right _ (List.mem_append_left _ (List.mem_of_getElem? (i := 43) rfl)))) rfl
theorem kw_409 : Cond.code y_X_word b_X_word 3 (some .int) ∈ zz_tbl := zz_mem (List.mem_append_right _ (List.mem_append_right _ (List.mem_append_left _ (List.mem_of_getElem? (i := 46) rfl)))) rfl
theorem kw_410 : Cond.instanceMethod y_X_word ∈ zz_tbl := zz_mem (List.mem_append_right _ (List.mem_append_right _ (List.mem_append_left _ (List.mem_of_getElem? (i := 44) rfl)))) rfl
theorem kw_411 : Cond.selects "GridFills" y_X_word y_X_word ∈ zz_tbl := zz_mem (List.mem_append_right _ (List.mem_append_right _ (List.mem_append_left _ (List.mem_of_getElem? (i := 45) rfl)))) rfl
theorem kw_412 : Cond.methodLink "GridFillsLaw" 40 y_M_given ∈ zz_tbl := zz_mem (List.mem_append_right _ (List.mem_append_right _ (List.mem_append_right _ (List.mem_append_left _ (List.mem_of_getElem? (i := 155) rfl))))) rfl
theorem kw_413 : Cond.code y_M_given b_M_given 4 (some .boolean) ∈ zz_tbl := zz_mem (List.mem_append_right _ (List.mem_append_right _ (List.mem_append_right _ (List.mem_append_left _ (List.mem_of_getElem? (i := 158) rfl))))) rfl
theorem kw_414 : Cond.instanceMethod y_M_given ∈ zz_tbl := zz_mem (List.mem_append_right _ (List.mem_append_right _ (List.mem_append_right _ (List.mem_append_left _ (List.mem_of_getElem? (i := 156) rfl))))) rfl
theorem kw_415 : Cond.selects "GridFillsModel" y_M_given y_M_given ∈ zz_tbl := zz_mem (List.mem_append_right _ (List.mem_append_right _ (List.mem_append_right _ (List.mem_append_left _ (List.mem_of_getElem? (i := 157) rfl))))) rfl
theorem kw_416 : Cond.methodLink "GridFillsLaw" 36 y_X_given ∈ zz_tbl := zz_mem (List.mem_append_right _ (List.mem_append_right _ (List.mem_append_left _ (List.mem_of_getElem? (i := 90) rfl)))) rfl
theorem kw_417 : Cond.code y_X_given b_X_given 5 (some .boolean) ∈ zz_tbl := zz_mem (List.mem_append_right _ (List.mem_append_right _ (List.mem_append_left _ (List.mem_of_getElem? (i := 93) rfl)))) rfl
theorem kw_418 : Cond.instanceMethod y_X_given ∈ zz_tbl := zz_mem (List.mem_append_right _ (List.mem_append_right _ (List.mem_append_left _ (List.mem_of_getElem? (i := 91) rfl)))) rfl
theorem kw_419 : Cond.selects "GridFills" y_X_given y_X_given ∈ zz_tbl := zz_mem (List.mem_append_right _ (List.mem_append_right _ (List.mem_append_left _ (List.mem_of_getElem? (i := 92) rfl)))) rfl
theorem kw_420 : Cond.methodLink "GridFillsLaw" 45 y_M_theme ∈ zz_tbl := zz_mem (List.mem_append_right _ (List.mem_append_right _ (List.mem_append_right _ (List.mem_append_left _ (List.mem_of_getElem? (i := 159) rfl))))) rfl
theorem kw_421 : Cond.code y_M_theme b_M_theme 3 (some .boolean) ∈ zz_tbl := zz_mem (List.mem_append_right _ (List.mem_append_right _ (List.mem_append_right _ (List.mem_append_left _ (List.mem_of_getElem? (i := 162) rfl))))) rfl
theorem kw_422 : Cond.instanceMethod y_M_theme ∈ zz_tbl := zz_mem (List.mem_append_right _ (List.mem_append_right _ (List.mem_append_right _ (List.mem_append_left _ (List.mem_of_getElem? (i := 160) rfl))))) rfl
theorem kw_423 : Cond.selects "GridFillsModel" y_M_theme y_M_theme ∈ zz_tbl := zz_mem (List.mem_append_right _ (List.mem_append_right _ (List.mem_append_right _ (List.mem_append_left _ (List.mem_of_getElem? (i := 161) rfl))))) rfl
theorem kw_424 : Cond.methodLink "GridFillsLaw" 41 y_X_theme ∈ zz_tbl := zz_mem (List.mem_append_right _ (List.mem_append_right _ (List.mem_append_left _ (List.mem_of_getElem? (i := 94) rfl)))) rfl
theorem kw_425 : Cond.code y_X_theme b_X_theme 3 (some .boolean) ∈ zz_tbl := zz_mem (List.mem_append_right _ (List.mem_append_right _ (List.mem_append_left _ (List.mem_of_getElem? (i := 97) rfl)))) rfl
theorem kw_426 : Cond.instanceMethod y_X_theme ∈ zz_tbl := zz_mem (List.mem_append_right _ (List.mem_append_right _ (List.mem_append_left _ (List.mem_of_getElem? (i := 95) rfl)))) rfl
theorem kw_427 : Cond.selects "GridFills" y_X_theme y_X_theme ∈ zz_tbl := zz_mem (List.mem_append_right _ (List.mem_append_right _ (List.mem_append_left _ (List.mem_of_getElem? (i := 96) rfl)))) rfl
theorem kw_428 : Cond.methodLink "GridFillsLaw" 50 y_M_slots ∈ zz_tbl := zz_mem (List.mem_append_right _ (List.mem_append_right _ (List.mem_append_right _ (List.mem_append_left _ (List.mem_of_getElem? (i := 167) rfl))))) rfl
theorem kw_429 : Cond.code y_M_slots b_M_slots 1 (some .int) ∈ zz_tbl := zz_mem (List.mem_append_right _ (List.mem_append_right _ (List.mem_append_right _ (List.mem_append_left _ (List.mem_of_getElem? (i := 170) rfl))))) rfl
theorem kw_430 : Cond.instanceMethod y_M_slots ∈ zz_tbl := zz_mem (List.mem_append_right _ (List.mem_append_right _ (List.mem_append_right _ (List.mem_append_left _ (List.mem_of_getElem? (i := 168) rfl))))) rfl
theorem kw_431 : Cond.selects "GridFillsModel" y_M_slots y_M_slots ∈ zz_tbl := zz_mem (List.mem_append_right _ (List.mem_append_right _ (List.mem_append_right _ (List.mem_append_left _ (List.mem_of_getElem? (i := 169) rfl))))) rfl
theorem kw_432 : Cond.methodLink "GridFillsLaw" 46 y_X_slots ∈ zz_tbl := zz_mem (List.mem_append_right _ (List.mem_append_right _ (List.mem_append_left _ (List.mem_of_getElem? (i := 106) rfl)))) rfl
theorem kw_433 : Cond.code y_X_slots b_X_slots 1 (some .int) ∈ zz_tbl := zz_mem (List.mem_append_right _ (List.mem_append_right _ (List.mem_append_left _ (List.mem_of_getElem? (i := 109) rfl)))) rfl
theorem kw_434 : Cond.instanceMethod y_X_slots ∈ zz_tbl := zz_mem (List.mem_append_right _ (List.mem_append_right _ (List.mem_append_left _ (List.mem_of_getElem? (i := 107) rfl)))) rfl
theorem kw_435 : Cond.selects "GridFills" y_X_slots y_X_slots ∈ zz_tbl := zz_mem (List.mem_append_right _ (List.mem_append_right _ (List.mem_append_left _ (List.mem_of_getElem? (i := 108) rfl)))) rfl
theorem kw_436 : Cond.methodLink "GridFillsLaw" 55 y_M_slot ∈ zz_tbl := zz_mem (List.mem_append_right _ (List.mem_append_right _ (List.mem_append_right _ (List.mem_append_left _ (List.mem_of_getElem? (i := 171) rfl))))) rfl
theorem kw_437 : Cond.code y_M_slot b_M_slot 3 (some .int) ∈ zz_tbl := zz_mem (List.mem_append_right _ (List.mem_append_right _ (List.mem_append_right _ (List.mem_append_left _ (List.mem_of_getElem? (i := 174) rfl))))) rfl
theorem kw_438 : Cond.instanceMethod y_M_slot ∈ zz_tbl := zz_mem (List.mem_append_right _ (List.mem_append_right _ (List.mem_append_right _ (List.mem_append_left _ (List.mem_of_getElem? (i := 172) rfl))))) rfl
theorem kw_439 : Cond.selects "GridFillsModel" y_M_slot y_M_slot ∈ zz_tbl := zz_mem (List.mem_append_right _ (List.mem_append_right _ (List.mem_append_right _ (List.mem_append_left _ (List.mem_of_getElem? (i := 173) rfl))))) rfl
theorem kw_440 : Cond.methodLink "GridFillsLaw" 51 y_X_slot ∈ zz_tbl := zz_mem (List.mem_append_right _ (List.mem_append_right _ (List.mem_append_left _ (List.mem_of_getElem? (i := 110) rfl)))) rfl
theorem kw_441 : Cond.code y_X_slot b_X_slot 3 (some .int) ∈ zz_tbl := zz_mem (List.mem_append_right _ (List.mem_append_right _ (List.mem_append_left _ (List.mem_of_getElem? (i := 113) rfl)))) rfl
theorem kw_442 : Cond.instanceMethod y_X_slot ∈ zz_tbl := zz_mem (List.mem_append_right _ (List.mem_append_right _ (List.mem_append_left _ (List.mem_of_getElem? (i := 111) rfl)))) rfl
theorem kw_443 : Cond.selects "GridFills" y_X_slot y_X_slot ∈ zz_tbl := zz_mem (List.mem_append_right _ (List.mem_append_right _ (List.mem_append_left _ (List.mem_of_getElem? (i := 112) rfl)))) rfl
theorem kw_444 : Cond.methodLink "GridFillsLaw" 59 y_M_run ∈ zz_tbl := zz_mem (List.mem_append_right _ (List.mem_append_right _ (List.mem_append_right _ (List.mem_append_left _ (List.mem_of_getElem? (i := 199) rfl))))) rfl
theorem kw_445 : Cond.code y_M_run b_M_run 2 (some .int) ∈ zz_tbl := zz_mem (List.mem_append_right _ (List.mem_append_right _ (List.mem_append_right _ (List.mem_append_left _ (List.mem_of_getElem? (i := 202) rfl))))) rfl
theorem kw_446 : Cond.instanceMethod y_M_run ∈ zz_tbl := zz_mem (List.mem_append_right _ (List.mem_append_right _ (List.mem_append_right _ (List.mem_append_left _ (List.mem_of_getElem? (i := 200) rfl))))) rfl
theorem kw_447 : Cond.selects "GridFillsModel" y_M_run y_M_run ∈ zz_tbl := zz_mem (List.mem_append_right _ (List.mem_append_right _ (List.mem_append_right _ (List.mem_append_left _ (List.mem_of_getElem? (i := 201) rfl))))) rfl
theorem kw_448 : Cond.methodLink "GridFillsLaw" 56 y_X_run ∈ zz_tbl := zz_mem (List.mem_append_right _ (List.mem_append_right _ (List.mem_append_left _ (List.mem_of_getElem? (i := 140) rfl)))) rfl
theorem kw_449 : Cond.code y_X_run b_X_run 2 (some .int) ∈ zz_tbl := zz_mem (List.mem_append_right _ (List.mem_append_right _ (List.mem_append_left _ (List.mem_of_getElem? (i := 143) rfl)))) rfl
theorem kw_450 : Cond.instanceMethod y_X_run ∈ zz_tbl := zz_mem (List.mem_append_right _ (List.mem_append_right _ (List.mem_append_left _ (List.mem_of_getElem? (i := 141) rfl)))) rfl
theorem kw_451 : Cond.selects "GridFills" y_X_run y_X_run ∈ zz_tbl := zz_mem (List.mem_append_right _ (List.mem_append_right _ (List.mem_append_left _ (List.mem_of_getElem? (i := 142) rfl)))) rfl
theorem kw_452 : Cond.methodLink "GridFillsLaw" 63 y_M_best ∈ zz_tbl := zz_mem (List.mem_append_right _ (List.mem_append_right _ (List.mem_append_right _ (List.mem_append_left _ (List.mem_of_getElem? (i := 219) rfl))))) rfl
theorem kw_453 : Cond.code y_M_best b_M_best 2 (some .int) ∈ zz_tbl := zz_mem (List.mem_append_right _ (List.mem_append_right _ (List.mem_append_right _ (List.mem_append_left _ (List.mem_of_getElem? (i := 222) rfl))))) rfl
theorem kw_454 : Cond.instanceMethod y_M_best ∈ zz_tbl := zz_mem (List.mem_append_right _ (List.mem_append_right _ (List.mem_append_right _ (List.mem_append_left _ (List.mem_of_getElem? (i := 220) rfl))))) rfl
theorem kw_455 : Cond.selects "GridFillsModel" y_M_best y_M_best ∈ zz_tbl := zz_mem (List.mem_append_right _ (List.mem_append_right _ (List.mem_append_right _ (List.mem_append_left _ (List.mem_of_getElem? (i := 221) rfl))))) rfl
theorem kw_456 : Cond.methodLink "GridFillsLaw" 60 y_X_best ∈ zz_tbl := zz_mem (List.mem_append_right _ (List.mem_append_right _ (List.mem_append_left _ (List.mem_of_getElem? (i := 195) rfl)))) rfl
theorem kw_457 : Cond.code y_X_best b_X_best 2 (some .int) ∈ zz_tbl := zz_mem (List.mem_append_right _ (List.mem_append_right _ (List.mem_append_left _ (List.mem_of_getElem? (i := 198) rfl)))) rfl
theorem kw_458 : Cond.instanceMethod y_X_best ∈ zz_tbl := zz_mem (List.mem_append_right _ (List.mem_append_right _ (List.mem_append_left _ (List.mem_of_getElem? (i := 196) rfl)))) rfl
theorem kw_459 : Cond.selects "GridFills" y_X_best y_X_best ∈ zz_tbl := zz_mem (List.mem_append_right _ (List.mem_append_right _ (List.mem_append_left _ (List.mem_of_getElem? (i := 197) rfl)))) rfl
theorem kw_460 : Cond.methodLink "GridFillsLaw" 67 y_M_steps ∈ zz_tbl := zz_mem (List.mem_append_right _ (List.mem_append_right _ (List.mem_append_right _ (List.mem_append_left _ (List.mem_of_getElem? (i := 223) rfl))))) rfl
theorem kw_461 : Cond.code y_M_steps b_M_steps 1 (some .int) ∈ zz_tbl := zz_mem (List.mem_append_right _ (List.mem_append_right _ (List.mem_append_right _ (List.mem_append_left _ (List.mem_of_getElem? (i := 226) rfl))))) rfl
theorem kw_462 : Cond.instanceMethod y_M_steps ∈ zz_tbl := zz_mem (List.mem_append_right _ (List.mem_append_right _ (List.mem_append_right _ (List.mem_append_left _ (List.mem_of_getElem? (i := 224) rfl))))) rfl
theorem kw_463 : Cond.selects "GridFillsModel" y_M_steps y_M_steps ∈ zz_tbl := zz_mem (List.mem_append_right _ (List.mem_append_right _ (List.mem_append_right _ (List.mem_append_left _ (List.mem_of_getElem? (i := 225) rfl))))) rfl
theorem kw_464 : Cond.methodLink "GridFillsLaw" 64 y_X_steps ∈ zz_tbl := zz_mem (List.mem_append_right _ (List.mem_append_right _ (List.mem_append_left _ (List.mem_of_getElem? (i := 199) rfl)))) rfl
theorem kw_465 : Cond.code y_X_steps b_X_steps 1 (some .int) ∈ zz_tbl := zz_mem (List.mem_append_right _ (List.mem_append_right _ (List.mem_append_left _ (List.mem_of_getElem? (i := 202) rfl)))) rfl
theorem kw_466 : Cond.instanceMethod y_X_steps ∈ zz_tbl := zz_mem (List.mem_append_right _ (List.mem_append_right _ (List.mem_append_left _ (List.mem_of_getElem? (i := 200) rfl)))) rfl
theorem kw_467 : Cond.selects "GridFills" y_X_steps y_X_steps ∈ zz_tbl := zz_mem (List.mem_append_right _ (List.mem_append_right _ (List.mem_append_left _ (List.mem_of_getElem? (i := 201) rfl)))) rfl
theorem kw_468 : Cond.methodLink "GridFillsLaw" 71 y_M_many ∈ zz_tbl := zz_mem (List.mem_append_right _ (List.mem_append_right _ (List.mem_append_right _ (List.mem_append_left _ (List.mem_of_getElem? (i := 227) rfl))))) rfl
theorem kw_469 : Cond.code y_M_many b_M_many 1 (some .int) ∈ zz_tbl := zz_mem (List.mem_append_right _ (List.mem_append_right _ (List.mem_append_right _ (List.mem_append_left _ (List.mem_of_getElem? (i := 230) rfl))))) rfl
theorem kw_470 : Cond.instanceMethod y_M_many ∈ zz_tbl := zz_mem (List.mem_append_right _ (List.mem_append_right _ (List.mem_append_right _ (List.mem_append_left _ (List.mem_of_getElem? (i := 228) rfl))))) rfl
theorem kw_471 : Cond.selects "GridFillsModel" y_M_many y_M_many ∈ zz_tbl := zz_mem (List.mem_append_right _ (List.mem_append_right _ (List.mem_append_right _ (List.mem_append_left _ (List.mem_of_getElem? (i := 229) rfl))))) rfl
theorem kw_472 : Cond.methodLink "GridFillsLaw" 68 y_X_many ∈ zz_tbl := zz_mem (List.mem_append_right _ (List.mem_append_right _ (List.mem_append_left _ (List.mem_of_getElem? (i := 203) rfl)))) rfl
theorem kw_473 : Cond.code y_X_many b_X_many 1 (some .int) ∈ zz_tbl := zz_mem (List.mem_append_right _ (List.mem_append_right _ (List.mem_append_left _ (List.mem_of_getElem? (i := 206) rfl)))) rfl
theorem kw_474 : Cond.instanceMethod y_X_many ∈ zz_tbl := zz_mem (List.mem_append_right _ (List.mem_append_right _ (List.mem_append_left _ (List.mem_of_getElem? (i := 204) rfl)))) rfl
theorem kw_475 : Cond.selects "GridFills" y_X_many y_X_many ∈ zz_tbl := zz_mem (List.mem_append_right _ (List.mem_append_right _ (List.mem_append_left _ (List.mem_of_getElem? (i := 205) rfl)))) rfl
theorem kw_476 : Cond.methodLink "GridFillsLaw" 75 y_M_score ∈ zz_tbl := zz_mem (List.mem_append_right _ (List.mem_append_right _ (List.mem_append_right _ (List.mem_append_left _ (List.mem_of_getElem? (i := 231) rfl))))) rfl
theorem kw_477 : Cond.code y_M_score b_M_score 3 (some .int) ∈ zz_tbl := zz_mem (List.mem_append_right _ (List.mem_append_right _ (List.mem_append_right _ (List.mem_append_left _ (List.mem_of_getElem? (i := 234) rfl))))) rfl
theorem kw_478 : Cond.instanceMethod y_M_score ∈ zz_tbl := zz_mem (List.mem_append_right _ (List.mem_append_right _ (List.mem_append_right _ (List.mem_append_left _ (List.mem_of_getElem? (i := 232) rfl))))) rfl
theorem kw_479 : Cond.selects "GridFillsModel" y_M_score y_M_score ∈ zz_tbl := zz_mem (List.mem_append_right _ (List.mem_append_right _ (List.mem_append_right _ (List.mem_append_left _ (List.mem_of_getElem? (i := 233) rfl))))) rfl
theorem kw_480 : Cond.methodLink "GridFillsLaw" 72 y_X_score ∈ zz_tbl := zz_mem (List.mem_append_right _ (List.mem_append_right _ (List.mem_append_left _ (List.mem_of_getElem? (i := 207) rfl)))) rfl
theorem kw_481 : Cond.code y_X_score b_X_score 1 (some .int) ∈ zz_tbl := zz_mem (List.mem_append_right _ (List.mem_append_right _ (List.mem_append_left _ (List.mem_of_getElem? (i := 210) rfl)))) rfl
theorem kw_482 : Cond.instanceMethod y_X_score ∈ zz_tbl := zz_mem (List.mem_append_right _ (List.mem_append_right _ (List.mem_append_left _ (List.mem_of_getElem? (i := 208) rfl)))) rfl
theorem kw_483 : Cond.selects "GridFills" y_X_score y_X_score ∈ zz_tbl := zz_mem (List.mem_append_right _ (List.mem_append_right _ (List.mem_append_left _ (List.mem_of_getElem? (i := 209) rfl)))) rfl
theorem kw_484 : Cond.methodLink "GridFillsLaw" 79 y_M_letter ∈ zz_tbl := zz_mem (List.mem_append_right _ (List.mem_append_right _ (List.mem_append_right _ (List.mem_append_left _ (List.mem_of_getElem? (i := 235) rfl))))) rfl
theorem kw_485 : Cond.code y_M_letter b_M_letter 5 (some .int) ∈ zz_tbl := zz_mem (List.mem_append_right _ (List.mem_append_right _ (List.mem_append_right _ (List.mem_append_left _ (List.mem_of_getElem? (i := 238) rfl))))) rfl
theorem kw_486 : Cond.instanceMethod y_M_letter ∈ zz_tbl := zz_mem (List.mem_append_right _ (List.mem_append_right _ (List.mem_append_right _ (List.mem_append_left _ (List.mem_of_getElem? (i := 236) rfl))))) rfl
theorem kw_487 : Cond.selects "GridFillsModel" y_M_letter y_M_letter ∈ zz_tbl := zz_mem (List.mem_append_right _ (List.mem_append_right _ (List.mem_append_right _ (List.mem_append_left _ (List.mem_of_getElem? (i := 237) rfl))))) rfl
theorem kw_488 : Cond.methodLink "GridFillsLaw" 76 y_X_letter ∈ zz_tbl := zz_mem (List.mem_append_right _ (List.mem_append_right _ (List.mem_append_left _ (List.mem_of_getElem? (i := 211) rfl)))) rfl
theorem kw_489 : Cond.code y_X_letter b_X_letter 4 (some .int) ∈ zz_tbl := zz_mem (List.mem_append_right _ (List.mem_append_right _ (List.mem_append_left _ (List.mem_of_getElem? (i := 214) rfl)))) rfl
theorem kw_490 : Cond.instanceMethod y_X_letter ∈ zz_tbl := zz_mem (List.mem_append_right _ (List.mem_append_right _ (List.mem_append_left _ (List.mem_of_getElem? (i := 212) rfl)))) rfl
theorem kw_491 : Cond.selects "GridFills" y_X_letter y_X_letter ∈ zz_tbl := zz_mem (List.mem_append_right _ (List.mem_append_right _ (List.mem_append_left _ (List.mem_of_getElem? (i := 213) rfl)))) rfl
theorem kw_492 : Cond.methodLink "GridFillsLaw" 83 y_M_check ∈ zz_tbl := zz_mem (List.mem_append_right _ (List.mem_append_right _ (List.mem_append_right _ (List.mem_append_left _ (List.mem_of_getElem? (i := 239) rfl))))) rfl
theorem kw_493 : Cond.code y_M_check b_M_check 4 (some .int) ∈ zz_tbl := zz_mem (List.mem_append_right _ (List.mem_append_right _ (List.mem_append_right _ (List.mem_append_right _ (List.mem_of_getElem? (i := 2) rfl))))) rfl
theorem kw_494 : Cond.instanceMethod y_M_check ∈ zz_tbl := zz_mem (List.mem_append_right _ (List.mem_append_right _ (List.mem_append_right _ (List.mem_append_right _ (List.mem_of_getElem? (i := 0) rfl))))) rfl
theorem kw_495 : Cond.selects "GridFillsModel" y_M_check y_M_check ∈ zz_tbl := zz_mem (List.mem_append_right _ (List.mem_append_right _ (List.mem_append_right _ (List.mem_append_right _ (List.mem_of_getElem? (i := 1) rfl))))) rfl
theorem kw_496 : Cond.methodLink "GridFillsLaw" 80 y_X_check ∈ zz_tbl := zz_mem (List.mem_append_right _ (List.mem_append_right _ (List.mem_append_left _ (List.mem_of_getElem? (i := 226) rfl)))) rfl
theorem kw_497 : Cond.code y_X_check b_X_check 1 (some .int) ∈ zz_tbl := zz_mem (List.mem_append_right _ (List.mem_append_right _ (List.mem_append_left _ (List.mem_of_getElem? (i := 229) rfl)))) rfl
theorem kw_498 : Cond.instanceMethod y_X_check ∈ zz_tbl := zz_mem (List.mem_append_right _ (List.mem_append_right _ (List.mem_append_left _ (List.mem_of_getElem? (i := 227) rfl)))) rfl
theorem kw_499 : Cond.selects "GridFills" y_X_check y_X_check ∈ zz_tbl := zz_mem (List.mem_append_right _ (List.mem_append_right _ (List.mem_append_left _ (List.mem_of_getElem? (i := 228) rfl)))) rfl
theorem kw_500 : Cond.methodLink "GridFillsLaw" 87 y_M_alike ∈ zz_tbl := zz_mem (List.mem_append_right _ (List.mem_append_right _ (List.mem_append_right _ (List.mem_append_right _ (List.mem_of_getElem? (i := 3) rfl))))) rfl
theorem kw_501 : Cond.code y_M_alike b_M_alike 6 (some .boolean) ∈ zz_tbl := zz_mem (List.mem_append_right _ (List.mem_append_right _ (List.mem_append_right _ (List.mem_append_right _ (List.mem_of_getElem? (i := 6) rfl))))) rfl
theorem kw_502 : Cond.instanceMethod y_M_alike ∈ zz_tbl := zz_mem (List.mem_append_right _ (List.mem_append_right _ (List.mem_append_right _ (List.mem_append_right _ (List.mem_of_getElem? (i := 4) rfl))))) rfl
theorem kw_503 : Cond.selects "GridFillsModel" y_M_alike y_M_alike ∈ zz_tbl := zz_mem (List.mem_append_right _ (List.mem_append_right _ (List.mem_append_right _ (List.mem_append_right _ (List.mem_of_getElem? (i := 5) rfl))))) rfl
theorem kw_504 : Cond.methodLink "GridFillsLaw" 84 y_X_alike ∈ zz_tbl := zz_mem (List.mem_append_right _ (List.mem_append_right _ (List.mem_append_right _ (List.mem_append_left _ (List.mem_of_getElem? (i := 2) rfl))))) rfl
theorem kw_505 : Cond.code y_X_alike b_X_alike 2 (some .boolean) ∈ zz_tbl := zz_mem (List.mem_append_right _ (List.mem_append_right _ (List.mem_append_right _ (List.mem_append_left _ (List.mem_of_getElem? (i := 5) rfl))))) rfl
theorem kw_506 : Cond.instanceMethod y_X_alike ∈ zz_tbl := zz_mem (List.mem_append_right _ (List.mem_append_right _ (List.mem_append_right _ (List.mem_append_left _ (List.mem_of_getElem? (i := 3) rfl))))) rfl
theorem kw_507 : Cond.selects "GridFills" y_X_alike y_X_alike ∈ zz_tbl := zz_mem (List.mem_append_right _ (List.mem_append_right _ (List.mem_append_right _ (List.mem_append_left _ (List.mem_of_getElem? (i := 4) rfl))))) rfl
theorem kw_508 : Cond.methodLink "GridFillsLaw" 91 y_M_parts ∈ zz_tbl := zz_mem (List.mem_append_right _ (List.mem_append_right _ (List.mem_append_right _ (List.mem_append_right _ (List.mem_of_getElem? (i := 7) rfl))))) rfl
theorem kw_509 : Cond.code y_M_parts b_M_parts 8 (some .int) ∈ zz_tbl := zz_mem (List.mem_append_right _ (List.mem_append_right _ (List.mem_append_right _ (List.mem_append_right _ (List.mem_of_getElem? (i := 10) rfl))))) rfl
theorem kw_510 : Cond.instanceMethod y_M_parts ∈ zz_tbl := zz_mem (List.mem_append_right _ (List.mem_append_right _ (List.mem_append_right _ (List.mem_append_right _ (List.mem_of_getElem? (i := 8) rfl))))) rfl
theorem kw_511 : Cond.selects "GridFillsModel" y_M_parts y_M_parts ∈ zz_tbl := zz_mem (List.mem_append_right _ (List.mem_append_right _ (List.mem_append_right _ (List.mem_append_right _ (List.mem_of_getElem? (i := 9) rfl))))) rfl
theorem kw_512 : Cond.methodLink "GridFillsLaw" 88 y_X_parts ∈ zz_tbl := zz_mem (List.mem_append_right _ (List.mem_append_right _ (List.mem_append_right _ (List.mem_append_left _ (List.mem_of_getElem? (i := 14) rfl))))) rfl
theorem kw_513 : Cond.code y_X_parts b_X_parts 1 (some .int) ∈ zz_tbl := zz_mem (List.mem_append_right _ (List.mem_append_right _ (List.mem_append_right _ (List.mem_append_left _ (List.mem_of_getElem? (i := 17) rfl))))) rfl
theorem kw_514 : Cond.instanceMethod y_X_parts ∈ zz_tbl := zz_mem (List.mem_append_right _ (List.mem_append_right _ (List.mem_append_right _ (List.mem_append_left _ (List.mem_of_getElem? (i := 15) rfl))))) rfl
theorem kw_515 : Cond.selects "GridFills" y_X_parts y_X_parts ∈ zz_tbl := zz_mem (List.mem_append_right _ (List.mem_append_right _ (List.mem_append_right _ (List.mem_append_left _ (List.mem_of_getElem? (i := 16) rfl))))) rfl
theorem kw_516 : Cond.methodLink "GridFillsLaw" 21 y_X_black ∈ zz_tbl := zz_mem (List.mem_append_right _ (List.mem_append_right _ (List.mem_append_left _ (List.mem_of_getElem? (i := 19) rfl)))) rfl
theorem kw_517 : Cond.code y_X_black b_X_black 5 (some .boolean) ∈ zz_tbl := zz_mem (List.mem_append_right _ (List.mem_append_right _ (List.mem_append_left _ (List.mem_of_getElem? (i := 22) rfl)))) rfl
theorem kw_518 : Cond.instanceMethod y_X_black ∈ zz_tbl := zz_mem (List.mem_append_right _ (List.mem_append_right _ (List.mem_append_left _ (List.mem_of_getElem? (i := 20) rfl)))) rfl
theorem kw_519 : Cond.selects "GridFills" y_X_black y_X_black ∈ zz_tbl := zz_mem (List.mem_append_right _ (List.mem_append_right _ (List.mem_append_left _ (List.mem_of_getElem? (i := 21) rfl)))) rfl
theorem kw_520 : Cond.methodLink "GridFillsLaw" 25 y_M_black ∈ zz_tbl := zz_mem (List.mem_append_right _ (List.mem_append_right _ (List.mem_append_right _ (List.mem_append_left _ (List.mem_of_getElem? (i := 132) rfl))))) rfl
theorem kw_521 : Cond.code y_M_black b_M_black 5 (some .boolean) ∈ zz_tbl := zz_mem (List.mem_append_right _ (List.mem_append_right _ (List.mem_append_right _ (List.mem_append_left _ (List.mem_of_getElem? (i := 135) rfl))))) rfl
theorem kw_522 : Cond.instanceMethod y_M_black ∈ zz_tbl := zz_mem (List.mem_append_right _ (List.mem_append_right _ (List.mem_append_right _ (List.mem_append_left _ (List.mem_of_getElem? (i := 133) rfl))))) rfl
theorem kw_523 : Cond.selects "GridFillsModel" y_M_black y_M_black ∈ zz_tbl := zz_mem (List.mem_append_right _ (List.mem_append_right _ (List.mem_append_right _ (List.mem_append_left _ (List.mem_of_getElem? (i := 134) rfl))))) rfl
theorem kw_524 : Cond.initialized "java/lang/Math" ∈ zz_tbl := zz_mem (List.mem_append_right _ (List.mem_append_left _ (List.mem_of_getElem? (i := 3) rfl))) rfl
theorem kw_525 : Cond.methodLink "GridFills" 143 y_JM_min ∈ zz_tbl := zz_mem (List.mem_append_right _ (List.mem_append_left _ (List.mem_of_getElem? (i := 24) rfl))) rfl
theorem kw_526 : Cond.static y_JM_min ∈ zz_tbl := zz_mem (List.mem_append_right _ (List.mem_append_left _ (List.mem_of_getElem? (i := 25) rfl))) rfl
theorem kw_527 : Cond.code y_JM_min b_JM_min 2 (some .int) ∈ zz_tbl := zz_mem (List.mem_append_right _ (List.mem_append_left _ (List.mem_of_getElem? (i := 26) rfl))) rfl
theorem kw_528 : Cond.methodLink "GridFills" 148 y_JM_max ∈ zz_tbl := zz_mem (List.mem_append_right _ (List.mem_append_left _ (List.mem_of_getElem? (i := 27) rfl))) rfl
theorem kw_529 : Cond.static y_JM_max ∈ zz_tbl := zz_mem (List.mem_append_right _ (List.mem_append_left _ (List.mem_of_getElem? (i := 28) rfl))) rfl
theorem kw_530 : Cond.code y_JM_max b_JM_max 2 (some .int) ∈ zz_tbl := zz_mem (List.mem_append_right _ (List.mem_append_left _ (List.mem_of_getElem? (i := 29) rfl))) rfl
theorem kw_531 : Cond.methodLink "GridFills$WordList" 3 Lib.objectInit ∈ zz_tbl := zz_mem (List.mem_append_right _ (List.mem_append_left _ (List.mem_of_getElem? (i := 127) rfl))) rfl
theorem kw_532 : Cond.instanceMethod Lib.objectInit ∈ zz_tbl := zz_mem (List.mem_append_right _ (List.mem_append_left _ (List.mem_of_getElem? (i := 17) rfl))) rfl
theorem kw_533 : Cond.code Lib.objectInit ⟨#[0xb1]⟩ 1 none ∈ zz_tbl := zz_mem (List.mem_append_right _ (List.mem_append_left _ (List.mem_of_getElem? (i := 18) rfl))) rfl
theorem kw_534 : Cond.arrayClass .int ∈ zz_tbl := zz_mem (List.mem_append_right _ (List.mem_append_left _ (List.mem_of_getElem? (i := 121) rfl))) rfl
theorem kw_535 : Cond.arrayClass .long ∈ zz_tbl := zz_mem (List.mem_append_right _ (List.mem_append_left _ (List.mem_of_getElem? (i := 173) rfl))) rfl
theorem kw_536 : Cond.methodLink "GridFills$Filling" 3 Lib.objectInit ∈ zz_tbl := zz_mem (List.mem_append_right _ (List.mem_append_left _ (List.mem_of_getElem? (i := 179) rfl))) rfl
theorem kw_537 : Cond.methodLink "GridFills$Search" 3 Lib.objectInit ∈ zz_tbl := zz_mem (List.mem_append_right _ (List.mem_append_left _ (List.mem_of_getElem? (i := 200) rfl))) rfl
theorem kw_538 : Cond.methodLink "GridFills$Grid" 3 Lib.objectInit ∈ zz_tbl := zz_mem (List.mem_append_right _ (List.mem_append_left _ (List.mem_of_getElem? (i := 33) rfl))) rfl
theorem kw_539 : Cond.arrayClass .boolean ∈ zz_tbl := zz_mem (List.mem_append_right _ (List.mem_append_left _ (List.mem_of_getElem? (i := 120) rfl))) rfl
theorem kw_540 : Cond.methodLink "GridFillsModel" 1 Lib.objectInit ∈ zz_tbl := zz_mem (List.mem_append_right _ (List.mem_append_right _ (List.mem_append_right _ (List.mem_append_left _ (List.mem_of_getElem? (i := 34) rfl))))) rfl
theorem kw_541 : Cond.methodLink "GridFills" 3 Lib.objectInit ∈ zz_tbl := zz_mem (List.mem_append_right _ (List.mem_append_left _ (List.mem_of_getElem? (i := 16) rfl))) rfl
theorem kw_542 : Cond.classLink "GridFills" 9 "GridFills$Grid" ∈ zz_tbl := zz_mem (List.mem_append_right _ (List.mem_append_left _ (List.mem_of_getElem? (i := 19) rfl))) rfl
theorem kw_543 : Cond.instantiable "GridFills$Grid" 13 ∈ zz_tbl := zz_mem (List.mem_append_right _ (List.mem_append_left _ (List.mem_of_getElem? (i := 20) rfl))) rfl
theorem kw_544 : Cond.methodLink "GridFills" 11 y_X_heldToSide ∈ zz_tbl := zz_mem (List.mem_append_right _ (List.mem_append_left _ (List.mem_of_getElem? (i := 21) rfl))) rfl
theorem kw_545 : Cond.code y_X_heldToSide b_X_heldToSide 1 (some .int) ∈ zz_tbl := zz_mem (List.mem_append_right _ (List.mem_append_left _ (List.mem_of_getElem? (i := 23) rfl))) rfl
theorem kw_546 : Cond.static y_X_heldToSide ∈ zz_tbl := zz_mem (List.mem_append_right _ (List.mem_append_left _ (List.mem_of_getElem? (i := 22) rfl))) rfl
theorem kw_547 : Cond.methodLink "GridFills" 15 y_G_init ∈ zz_tbl := zz_mem (List.mem_append_right _ (List.mem_append_left _ (List.mem_of_getElem? (i := 30) rfl))) rfl
theorem kw_548 : Cond.code y_G_init b_G_init 3 none ∈ zz_tbl := zz_mem (List.mem_append_right _ (List.mem_append_left _ (List.mem_of_getElem? (i := 32) rfl))) rfl
theorem kw_549 : Cond.instanceMethod y_G_init ∈ zz_tbl := zz_mem (List.mem_append_right _ (List.mem_append_left _ (List.mem_of_getElem? (i := 31) rfl))) rfl
theorem kw_550 : Cond.classLink "GridFills" 22 "GridFills$WordList" ∈ zz_tbl := zz_mem (List.mem_append_right _ (List.mem_append_left _ (List.mem_of_getElem? (i := 122) rfl))) rfl
theorem kw_551 : Cond.instantiable "GridFills$WordList" 12 ∈ zz_tbl := zz_mem (List.mem_append_right _ (List.mem_append_left _ (List.mem_of_getElem? (i := 123) rfl))) rfl
theorem kw_552 : Cond.code y_L_init b_L_init 1 none ∈ zz_tbl := zz_mem (List.mem_append_right _ (List.mem_append_left _ (List.mem_of_getElem? (i := 126) rfl))) rfl
theorem kw_553 : Cond.instanceMethod y_L_init ∈ zz_tbl := zz_mem (List.mem_append_right _ (List.mem_append_left _ (List.mem_of_getElem? (i := 125) rfl))) rfl
theorem kw_554 : Cond.classLink "GridFills" 29 "GridFills$Filling" ∈ zz_tbl := zz_mem (List.mem_append_right _ (List.mem_append_left _ (List.mem_of_getElem? (i := 174) rfl))) rfl
theorem kw_555 : Cond.instantiable "GridFills$Filling" 4 ∈ zz_tbl := zz_mem (List.mem_append_right _ (List.mem_append_left _ (List.mem_of_getElem? (i := 175) rfl))) rfl
theorem kw_556 : Cond.methodLink "GridFills" 31 y_F_init ∈ zz_tbl := zz_mem (List.mem_append_right _ (List.mem_append_left _ (List.mem_of_getElem? (i := 176) rfl))) rfl
theorem kw_557 : Cond.code y_F_init b_F_init 3 none ∈ zz_tbl := zz_mem (List.mem_append_right _ (List.mem_append_left _ (List.mem_of_getElem? (i := 178) rfl))) rfl
theorem kw_558 : Cond.instanceMethod y_F_init ∈ zz_tbl := zz_mem (List.mem_append_right _ (List.mem_append_left _ (List.mem_of_getElem? (i := 177) rfl))) rfl
theorem kw_559 : Cond.classLink "GridFills" 38 "GridFills$Search" ∈ zz_tbl := zz_mem (List.mem_append_right _ (List.mem_append_left _ (List.mem_of_getElem? (i := 195) rfl))) rfl
theorem kw_560 : Cond.instantiable "GridFills$Search" 14 ∈ zz_tbl := zz_mem (List.mem_append_right _ (List.mem_append_left _ (List.mem_of_getElem? (i := 196) rfl))) rfl
theorem kw_561 : Cond.methodLink "GridFills" 40 y_S_init ∈ zz_tbl := zz_mem (List.mem_append_right _ (List.mem_append_left _ (List.mem_of_getElem? (i := 197) rfl))) rfl
theorem kw_562 : Cond.code y_S_init b_S_init 4 none ∈ zz_tbl := zz_mem (List.mem_append_right _ (List.mem_append_left _ (List.mem_of_getElem? (i := 199) rfl))) rfl
theorem kw_563 : Cond.instanceMethod y_S_init ∈ zz_tbl := zz_mem (List.mem_append_right _ (List.mem_append_left _ (List.mem_of_getElem? (i := 198) rfl))) rfl
theorem kw_564 : Cond.methodLink "GridFillsLaw" 9 y_W_cell ∈ zz_tbl := zz_mem (List.mem_append_right _ (List.mem_append_right _ (List.mem_append_right _ (List.mem_append_left _ (List.mem_of_getElem? (i := 26) rfl))))) rfl
theorem kw_565 : Cond.static y_W_cell ∈ zz_tbl := zz_mem (List.mem_append_right _ (List.mem_append_right _ (List.mem_append_right _ (List.mem_append_left _ (List.mem_of_getElem? (i := 27) rfl))))) rfl
theorem kw_566 : Cond.initialized "GridFillsLaw" ∈ zz_tbl := zz_mem (List.mem_append_right _ (List.mem_append_left _ (List.mem_of_getElem? (i := 0) rfl))) rfl
theorem kw_567 : Cond.code y_W_cell b_W_cell 2 (some .int) ∈ zz_tbl := zz_mem (List.mem_append_right _ (List.mem_append_right _ (List.mem_append_right _ (List.mem_append_left _ (List.mem_of_getElem? (i := 28) rfl))))) rfl
theorem kw_568 : Cond.instantiable "GridFills" 4 ∈ zz_tbl := zz_mem (List.mem_append_right _ (List.mem_append_left _ (List.mem_of_getElem? (i := 12) rfl))) rfl
theorem kw_569 : Cond.instantiable "GridFillsModel" 28 ∈ zz_tbl := zz_mem (List.mem_append_right _ (List.mem_append_right _ (List.mem_append_right _ (List.mem_append_left _ (List.mem_of_getElem? (i := 30) rfl))))) rfl
theorem kw_570 : Cond.classLink "GridFillsLaw" 7 "GridFills" ∈ zz_tbl := zz_mem (List.mem_append_right _ (List.mem_append_left _ (List.mem_of_getElem? (i := 11) rfl))) rfl
theorem kw_571 : Cond.code y_X_init b_X_init 3 none ∈ zz_tbl := zz_mem (List.mem_append_right _ (List.mem_append_left _ (List.mem_of_getElem? (i := 15) rfl))) rfl
theorem kw_572 : Cond.methodLink "GridFillsLaw" 15 y_X_init ∈ zz_tbl := zz_mem (List.mem_append_right _ (List.mem_append_left _ (List.mem_of_getElem? (i := 13) rfl))) rfl
theorem kw_573 : Cond.instanceMethod y_X_init ∈ zz_tbl := zz_mem (List.mem_append_right _ (List.mem_append_left _ (List.mem_of_getElem? (i := 14) rfl))) rfl
theorem kw_574 : Cond.classLink "GridFillsLaw" 18 "GridFillsModel" ∈ zz_tbl := zz_mem (List.mem_append_right _ (List.mem_append_right _ (List.mem_append_right _ (List.mem_append_left _ (List.mem_of_getElem? (i := 29) rfl))))) rfl
theorem kw_575 : Cond.code y_M_init b_M_init 3 none ∈ zz_tbl := zz_mem (List.mem_append_right _ (List.mem_append_right _ (List.mem_append_right _ (List.mem_append_left _ (List.mem_of_getElem? (i := 33) rfl))))) rfl
theorem kw_576 : Cond.methodLink "GridFillsLaw" 20 y_M_init ∈ zz_tbl := zz_mem (List.mem_append_right _ (List.mem_append_right _ (List.mem_append_right _ (List.mem_append_left _ (List.mem_of_getElem? (i := 31) rfl))))) rfl
theorem kw_577 : Cond.instanceMethod y_M_init ∈ zz_tbl := zz_mem (List.mem_append_right _ (List.mem_append_right _ (List.mem_append_right _ (List.mem_append_left _ (List.mem_of_getElem? (i := 32) rfl))))) rfl
