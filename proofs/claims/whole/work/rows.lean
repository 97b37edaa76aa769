section
-- ===== PART A: goes FIRST, ahead of the names: the tables' words, and 'selects' of the private methods out of them =====
/-- a private method of a class that the tables say can be made, by its rows of tables_1 -/
def lw_okq (q : MethodName × Nat) : Prop := (q.1.cls ≠ "java/lang/invoke/MethodHandle" ∧ q.1.cls ≠ "java/lang/invoke/VarHandle") ∧ Cond.instantiable q.1.cls q.2 ∈ tables_1 ∧ Cond.privateMethod q.1 ∈ tables_1 ∧ Cond.instanceMethod q.1 ∈ tables_1
theorem lw_p0 : lw_okq (⟨"GridFills$Grid", "findSlots", "()V"⟩, 13) := ⟨⟨by decide +kernel, by decide +kernel⟩, List.mem_of_getElem? (i := 20) (by decide +kernel), List.mem_of_getElem? (i := 35) (by decide +kernel), List.mem_of_getElem? (i := 36) (by decide +kernel)⟩
theorem lw_p1 : lw_okq (⟨"GridFills$Grid", "addSlotFrom", "(III)V"⟩, 13) := ⟨⟨by decide +kernel, by decide +kernel⟩, List.mem_of_getElem? (i := 20) (by decide +kernel), List.mem_of_getElem? (i := 42) (by decide +kernel), List.mem_of_getElem? (i := 43) (by decide +kernel)⟩
theorem lw_p2 : lw_okq (⟨"GridFills$Grid", "isOpen", "(II)Z"⟩, 13) := ⟨⟨by decide +kernel, by decide +kernel⟩, List.mem_of_getElem? (i := 20) (by decide +kernel), List.mem_of_getElem? (i := 46) (by decide +kernel), List.mem_of_getElem? (i := 47) (by decide +kernel)⟩
theorem lw_p3 : lw_okq (⟨"GridFills$Grid", "markCells", "(I)V"⟩, 13) := ⟨⟨by decide +kernel, by decide +kernel⟩, List.mem_of_getElem? (i := 20) (by decide +kernel), List.mem_of_getElem? (i := 54) (by decide +kernel), List.mem_of_getElem? (i := 55) (by decide +kernel)⟩
theorem lw_p4 : lw_okq (⟨"GridFills$WordList", "isThere", "()Z"⟩, 12) := ⟨⟨by decide +kernel, by decide +kernel⟩, List.mem_of_getElem? (i := 123) (by decide +kernel), List.mem_of_getElem? (i := 292) (by decide +kernel), List.mem_of_getElem? (i := 293) (by decide +kernel)⟩
theorem lw_p5 : lw_okq (⟨"GridFills$WordList", "isCollected", "(I)Z"⟩, 12) := ⟨⟨by decide +kernel, by decide +kernel⟩, List.mem_of_getElem? (i := 123) (by decide +kernel), List.mem_of_getElem? (i := 296) (by decide +kernel), List.mem_of_getElem? (i := 297) (by decide +kernel)⟩
theorem lw_p6 : lw_okq (⟨"GridFills$WordList", "rank", "(I)V"⟩, 12) := ⟨⟨by decide +kernel, by decide +kernel⟩, List.mem_of_getElem? (i := 123) (by decide +kernel), List.mem_of_getElem? (i := 307) (by decide +kernel), List.mem_of_getElem? (i := 308) (by decide +kernel)⟩
theorem lw_p7 : lw_okq (⟨"GridFills$WordList", "sortIntoSets", "()V"⟩, 12) := ⟨⟨by decide +kernel, by decide +kernel⟩, List.mem_of_getElem? (i := 123) (by decide +kernel), List.mem_of_getElem? (i := 311) (by decide +kernel), List.mem_of_getElem? (i := 312) (by decide +kernel)⟩
theorem lw_p8 : lw_okq (⟨"GridFills$Search", "openSlot", "(I)V"⟩, 14) := ⟨⟨by decide +kernel, by decide +kernel⟩, List.mem_of_getElem? (i := 196) (by decide +kernel), List.mem_of_getElem? (i := 359) (by decide +kernel), List.mem_of_getElem? (i := 360) (by decide +kernel)⟩
theorem lw_p9 : lw_okq (⟨"GridFills$Search", "narrow", "(II)V"⟩, 14) := ⟨⟨by decide +kernel, by decide +kernel⟩, List.mem_of_getElem? (i := 196) (by decide +kernel), List.mem_of_getElem? (i := 365) (by decide +kernel), List.mem_of_getElem? (i := 366) (by decide +kernel)⟩
theorem lw_p10 : lw_okq (⟨"GridFills$Search", "clearSlots", "()V"⟩, 14) := ⟨⟨by decide +kernel, by decide +kernel⟩, List.mem_of_getElem? (i := 196) (by decide +kernel), List.mem_of_getElem? (i := 393) (by decide +kernel), List.mem_of_getElem? (i := 394) (by decide +kernel)⟩
theorem lw_p11 : lw_okq (⟨"GridFills$Search", "fillFrom", "(I)Z"⟩, 14) := ⟨⟨by decide +kernel, by decide +kernel⟩, List.mem_of_getElem? (i := 196) (by decide +kernel), List.mem_of_getElem? (i := 397) (by decide +kernel), List.mem_of_getElem? (i := 398) (by decide +kernel)⟩
theorem lw_p12 : lw_okq (⟨"GridFills$Search", "takeFilling", "()Z"⟩, 14) := ⟨⟨by decide +kernel, by decide +kernel⟩, List.mem_of_getElem? (i := 196) (by decide +kernel), List.mem_of_getElem? (i := 401) (by decide +kernel), List.mem_of_getElem? (i := 402) (by decide +kernel)⟩
theorem lw_p13 : lw_okq (⟨"GridFills$Search", "slotWithFewest", "(I)I"⟩, 14) := ⟨⟨by decide +kernel, by decide +kernel⟩, List.mem_of_getElem? (i := 196) (by decide +kernel), List.mem_of_getElem? (i := 410) (by decide +kernel), List.mem_of_getElem? (i := 411) (by decide +kernel)⟩
theorem lw_p14 : lw_okq (⟨"GridFills$Search", "tryWord", "(III)Z"⟩, 14) := ⟨⟨by decide +kernel, by decide +kernel⟩, List.mem_of_getElem? (i := 196) (by decide +kernel), List.mem_of_getElem? (i := 418) (by decide +kernel), List.mem_of_getElem? (i := 419) (by decide +kernel)⟩
theorem lw_p15 : lw_okq (⟨"GridFills$Search", "narrowCrossing", "(III)V"⟩, 14) := ⟨⟨by decide +kernel, by decide +kernel⟩, List.mem_of_getElem? (i := 196) (by decide +kernel), List.mem_of_getElem? (i := 422) (by decide +kernel), List.mem_of_getElem? (i := 423) (by decide +kernel)⟩
def lw_privs_1 : List (MethodName × Nat) := [(⟨"GridFills$Grid", "findSlots", "()V"⟩, 13), (⟨"GridFills$Grid", "addSlotFrom", "(III)V"⟩, 13), (⟨"GridFills$Grid", "isOpen", "(II)Z"⟩, 13), (⟨"GridFills$Grid", "markCells", "(I)V"⟩, 13), (⟨"GridFills$WordList", "isThere", "()Z"⟩, 12), (⟨"GridFills$WordList", "isCollected", "(I)Z"⟩, 12), (⟨"GridFills$WordList", "rank", "(I)V"⟩, 12), (⟨"GridFills$WordList", "sortIntoSets", "()V"⟩, 12), (⟨"GridFills$Search", "openSlot", "(I)V"⟩, 14), (⟨"GridFills$Search", "narrow", "(II)V"⟩, 14), (⟨"GridFills$Search", "clearSlots", "()V"⟩, 14), (⟨"GridFills$Search", "fillFrom", "(I)Z"⟩, 14), (⟨"GridFills$Search", "takeFilling", "()Z"⟩, 14), (⟨"GridFills$Search", "slotWithFewest", "(I)I"⟩, 14), (⟨"GridFills$Search", "tryWord", "(III)Z"⟩, 14), (⟨"GridFills$Search", "narrowCrossing", "(III)V"⟩, 14)]
theorem lw_r1 : ∀ q ∈ lw_privs_1, lw_okq q := List.forall_mem_cons.mpr ⟨lw_p0, List.forall_mem_cons.mpr ⟨lw_p1, List.forall_mem_cons.mpr ⟨lw_p2, List.forall_mem_cons.mpr ⟨lw_p3, List.forall_mem_cons.mpr ⟨lw_p4, List.forall_mem_cons.mpr ⟨lw_p5, List.forall_mem_cons.mpr ⟨lw_p6, List.forall_mem_cons.mpr ⟨lw_p7, List.forall_mem_cons.mpr ⟨lw_p8, List.forall_mem_cons.mpr ⟨lw_p9, List.forall_mem_cons.mpr ⟨lw_p10, List.forall_mem_cons.mpr ⟨lw_p11, List.forall_mem_cons.mpr ⟨lw_p12, List.forall_mem_cons.mpr ⟨lw_p13, List.forall_mem_cons.mpr ⟨lw_p14, List.forall_mem_cons.mpr ⟨lw_p15, fun _ h => absurd h List.not_mem_nil⟩⟩⟩⟩⟩⟩⟩⟩⟩⟩⟩⟩⟩⟩⟩⟩
theorem lw_p16 : lw_okq (⟨"GridFills$Filling", "letterBy", "(II)I"⟩, 4) := ⟨⟨by decide +kernel, by decide +kernel⟩, List.mem_of_getElem? (i := 175) (by decide +kernel), List.mem_of_getElem? (i := 460) (by decide +kernel), List.mem_of_getElem? (i := 461) (by decide +kernel)⟩
theorem lw_p17 : lw_okq (⟨"GridFills$Filling", "holds", "(I)Z"⟩, 4) := ⟨⟨by decide +kernel, by decide +kernel⟩, List.mem_of_getElem? (i := 175) (by decide +kernel), List.mem_of_getElem? (i := 475) (by decide +kernel), List.mem_of_getElem? (i := 476) (by decide +kernel)⟩
theorem lw_p18 : lw_okq (⟨"GridFills$Grid", "imageIsOpen", "(III)Z"⟩, 13) := ⟨⟨by decide +kernel, by decide +kernel⟩, List.mem_of_getElem? (i := 20) (by decide +kernel), List.mem_of_getElem? (i := 491) (by decide +kernel), List.mem_of_getElem? (i := 492) (by decide +kernel)⟩
theorem lw_p19 : lw_okq (⟨"GridFills$Grid", "join", "(IIII)Z"⟩, 13) := ⟨⟨by decide +kernel, by decide +kernel⟩, List.mem_of_getElem? (i := 20) (by decide +kernel), List.mem_of_getElem? (i := 503) (by decide +kernel), List.mem_of_getElem? (i := 504) (by decide +kernel)⟩
theorem lw_p20 : lw_okq (⟨"GridFillsModel", "findSlots", "()V"⟩, 28) := ⟨⟨by decide +kernel, by decide +kernel⟩, List.mem_of_getElem? (i := 510) (by decide +kernel), List.mem_of_getElem? (i := 516) (by decide +kernel), List.mem_of_getElem? (i := 517) (by decide +kernel)⟩
theorem lw_p21 : lw_okq (⟨"GridFillsModel", "isOpen", "(II)Z"⟩, 28) := ⟨⟨by decide +kernel, by decide +kernel⟩, List.mem_of_getElem? (i := 510) (by decide +kernel), List.mem_of_getElem? (i := 520) (by decide +kernel), List.mem_of_getElem? (i := 521) (by decide +kernel)⟩
theorem lw_p22 : lw_okq (⟨"GridFillsModel", "isCell", "(II)Z"⟩, 28) := ⟨⟨by decide +kernel, by decide +kernel⟩, List.mem_of_getElem? (i := 510) (by decide +kernel), List.mem_of_getElem? (i := 524) (by decide +kernel), List.mem_of_getElem? (i := 525) (by decide +kernel)⟩
theorem lw_p23 : lw_okq (⟨"GridFillsModel", "enter", "(I)I"⟩, 28) := ⟨⟨by decide +kernel, by decide +kernel⟩, List.mem_of_getElem? (i := 510) (by decide +kernel), List.mem_of_getElem? (i := 628) (by decide +kernel), List.mem_of_getElem? (i := 629) (by decide +kernel)⟩
theorem lw_p24 : lw_okq (⟨"GridFillsModel", "isRow", "(I)Z"⟩, 28) := ⟨⟨by decide +kernel, by decide +kernel⟩, List.mem_of_getElem? (i := 510) (by decide +kernel), List.mem_of_getElem? (i := 632) (by decide +kernel), List.mem_of_getElem? (i := 633) (by decide +kernel)⟩
theorem lw_p25 : lw_okq (⟨"GridFillsModel", "isSlot", "(I)Z"⟩, 28) := ⟨⟨by decide +kernel, by decide +kernel⟩, List.mem_of_getElem? (i := 510) (by decide +kernel), List.mem_of_getElem? (i := 644) (by decide +kernel), List.mem_of_getElem? (i := 645) (by decide +kernel)⟩
theorem lw_p26 : lw_okq (⟨"GridFillsModel", "clearNow", "()V"⟩, 28) := ⟨⟨by decide +kernel, by decide +kernel⟩, List.mem_of_getElem? (i := 510) (by decide +kernel), List.mem_of_getElem? (i := 656) (by decide +kernel), List.mem_of_getElem? (i := 657) (by decide +kernel)⟩
theorem lw_p27 : lw_okq (⟨"GridFillsModel", "spell", "()V"⟩, 28) := ⟨⟨by decide +kernel, by decide +kernel⟩, List.mem_of_getElem? (i := 510) (by decide +kernel), List.mem_of_getElem? (i := 660) (by decide +kernel), List.mem_of_getElem? (i := 661) (by decide +kernel)⟩
theorem lw_p28 : lw_okq (⟨"GridFillsModel", "cellOf", "(II)I"⟩, 28) := ⟨⟨by decide +kernel, by decide +kernel⟩, List.mem_of_getElem? (i := 510) (by decide +kernel), List.mem_of_getElem? (i := 664) (by decide +kernel), List.mem_of_getElem? (i := 665) (by decide +kernel)⟩
theorem lw_p29 : lw_okq (⟨"GridFillsModel", "countFor", "(I)I"⟩, 28) := ⟨⟨by decide +kernel, by decide +kernel⟩, List.mem_of_getElem? (i := 510) (by decide +kernel), List.mem_of_getElem? (i := 668) (by decide +kernel), List.mem_of_getElem? (i := 669) (by decide +kernel)⟩
theorem lw_p30 : lw_okq (⟨"GridFillsModel", "mayHave", "(II)Z"⟩, 28) := ⟨⟨by decide +kernel, by decide +kernel⟩, List.mem_of_getElem? (i := 510) (by decide +kernel), List.mem_of_getElem? (i := 672) (by decide +kernel), List.mem_of_getElem? (i := 673) (by decide +kernel)⟩
theorem lw_p31 : lw_okq (⟨"GridFillsModel", "isUsed", "(I)Z"⟩, 28) := ⟨⟨by decide +kernel, by decide +kernel⟩, List.mem_of_getElem? (i := 510) (by decide +kernel), List.mem_of_getElem? (i := 676) (by decide +kernel), List.mem_of_getElem? (i := 677) (by decide +kernel)⟩
def lw_privs_2 : List (MethodName × Nat) := [(⟨"GridFills$Filling", "letterBy", "(II)I"⟩, 4), (⟨"GridFills$Filling", "holds", "(I)Z"⟩, 4), (⟨"GridFills$Grid", "imageIsOpen", "(III)Z"⟩, 13), (⟨"GridFills$Grid", "join", "(IIII)Z"⟩, 13), (⟨"GridFillsModel", "findSlots", "()V"⟩, 28), (⟨"GridFillsModel", "isOpen", "(II)Z"⟩, 28), (⟨"GridFillsModel", "isCell", "(II)Z"⟩, 28), (⟨"GridFillsModel", "enter", "(I)I"⟩, 28), (⟨"GridFillsModel", "isRow", "(I)Z"⟩, 28), (⟨"GridFillsModel", "isSlot", "(I)Z"⟩, 28), (⟨"GridFillsModel", "clearNow", "()V"⟩, 28), (⟨"GridFillsModel", "spell", "()V"⟩, 28), (⟨"GridFillsModel", "cellOf", "(II)I"⟩, 28), (⟨"GridFillsModel", "countFor", "(I)I"⟩, 28), (⟨"GridFillsModel", "mayHave", "(II)Z"⟩, 28), (⟨"GridFillsModel", "isUsed", "(I)Z"⟩, 28)]
theorem lw_r2 : ∀ q ∈ lw_privs_2, lw_okq q := List.forall_mem_cons.mpr ⟨lw_p16, List.forall_mem_cons.mpr ⟨lw_p17, List.forall_mem_cons.mpr ⟨lw_p18, List.forall_mem_cons.mpr ⟨lw_p19, List.forall_mem_cons.mpr ⟨lw_p20, List.forall_mem_cons.mpr ⟨lw_p21, List.forall_mem_cons.mpr ⟨lw_p22, List.forall_mem_cons.mpr ⟨lw_p23, List.forall_mem_cons.mpr ⟨lw_p24, List.forall_mem_cons.mpr ⟨lw_p25, List.forall_mem_cons.mpr ⟨lw_p26, List.forall_mem_cons.mpr ⟨lw_p27, List.forall_mem_cons.mpr ⟨lw_p28, List.forall_mem_cons.mpr ⟨lw_p29, List.forall_mem_cons.mpr ⟨lw_p30, List.forall_mem_cons.mpr ⟨lw_p31, fun _ h => absurd h List.not_mem_nil⟩⟩⟩⟩⟩⟩⟩⟩⟩⟩⟩⟩⟩⟩⟩⟩
theorem lw_p32 : lw_okq (⟨"GridFillsModel", "search", "(IZ)I"⟩, 28) := ⟨⟨by decide +kernel, by decide +kernel⟩, List.mem_of_getElem? (i := 510) (by decide +kernel), List.mem_of_getElem? (i := 684) (by decide +kernel), List.mem_of_getElem? (i := 685) (by decide +kernel)⟩
theorem lw_p33 : lw_okq (⟨"GridFillsModel", "open", "(I)Z"⟩, 28) := ⟨⟨by decide +kernel, by decide +kernel⟩, List.mem_of_getElem? (i := 510) (by decide +kernel), List.mem_of_getElem? (i := 688) (by decide +kernel), List.mem_of_getElem? (i := 689) (by decide +kernel)⟩
theorem lw_p34 : lw_okq (⟨"GridFillsModel", "isBefore", "(II)Z"⟩, 28) := ⟨⟨by decide +kernel, by decide +kernel⟩, List.mem_of_getElem? (i := 510) (by decide +kernel), List.mem_of_getElem? (i := 692) (by decide +kernel), List.mem_of_getElem? (i := 693) (by decide +kernel)⟩
theorem lw_p35 : lw_okq (⟨"GridFillsModel", "sumNow", "()I"⟩, 28) := ⟨⟨by decide +kernel, by decide +kernel⟩, List.mem_of_getElem? (i := 510) (by decide +kernel), List.mem_of_getElem? (i := 696) (by decide +kernel), List.mem_of_getElem? (i := 697) (by decide +kernel)⟩
theorem lw_p36 : lw_okq (⟨"GridFillsModel", "isSeen", "(II)Z"⟩, 28) := ⟨⟨by decide +kernel, by decide +kernel⟩, List.mem_of_getElem? (i := 510) (by decide +kernel), List.mem_of_getElem? (i := 732) (by decide +kernel), List.mem_of_getElem? (i := 733) (by decide +kernel)⟩
def lw_privs_3 : List (MethodName × Nat) := [(⟨"GridFillsModel", "search", "(IZ)I"⟩, 28), (⟨"GridFillsModel", "open", "(I)Z"⟩, 28), (⟨"GridFillsModel", "isBefore", "(II)Z"⟩, 28), (⟨"GridFillsModel", "sumNow", "()I"⟩, 28), (⟨"GridFillsModel", "isSeen", "(II)Z"⟩, 28)]
theorem lw_r3 : ∀ q ∈ lw_privs_3, lw_okq q := List.forall_mem_cons.mpr ⟨lw_p32, List.forall_mem_cons.mpr ⟨lw_p33, List.forall_mem_cons.mpr ⟨lw_p34, List.forall_mem_cons.mpr ⟨lw_p35, List.forall_mem_cons.mpr ⟨lw_p36, fun _ h => absurd h List.not_mem_nil⟩⟩⟩⟩⟩
def lw_privs : List (MethodName × Nat) := lw_privs_1 ++ (lw_privs_2 ++ (lw_privs_3))
def lw_tbl : List Cond := k2_sels lw_privs ++ tables_1
theorem lw_privs_ok : ∀ q ∈ lw_privs, lw_okq q := by
  show ∀ q ∈ lw_privs_1 ++ (lw_privs_2 ++ (lw_privs_3)), lw_okq q
  exact List.forall_mem_append.mpr ⟨lw_r1, List.forall_mem_append.mpr ⟨lw_r2, lw_r3⟩⟩
end
section
/-! The tables' words that every state keeps. -/
def zz_tbl : List Cond := lw_tbl.filter goodWord
theorem zz_mem {w : Cond} (h : w ∈ lw_tbl) (g : goodWord w = true) : w ∈ zz_tbl := List.mem_filter.mpr ⟨h, g⟩
theorem zz_good : GoodIn zz_tbl zz_tbl := fun w h => ⟨h, good_of_word (List.mem_filter.mp h).2⟩
theorem zz_gw {w : Cond} (h : w ∈ zz_tbl) : w ∈ zz_tbl ∧ ((w.onTables && w.keeps) = true ∨ ∃ ty, w = .arrayClass ty) := ⟨h, good_of_word (List.mem_filter.mp h).2⟩
theorem zz_gV {own C : String} {idx : Nat} {y : MethodName} {b : ByteArray} {n : Nat} {ret : Option FieldType} (h1 : Cond.methodLink own idx y ∈ zz_tbl) (h2 : Cond.instanceMethod y ∈ zz_tbl) (h3 : Cond.selects C y y ∈ zz_tbl) (h4 : Cond.initialized C ∈ zz_tbl) (h5 : Cond.code y b n ret ∈ zz_tbl) : GoodIn zz_tbl (wsV own idx C y (.code y b n ret :: zz_tbl)) := by
  intro w hw
  refine zz_gw ?_
  rcases List.mem_append.mp hw with h | h
  · simp only [List.mem_cons, List.not_mem_nil, or_false] at h
    rcases h with rfl | rfl | rfl | rfl <;> assumption
  · rcases List.mem_cons.mp h with rfl | h
    · exact h5
    · exact h
theorem zz_gS {own : String} {idx : Nat} {y : MethodName} {b : ByteArray} {n : Nat} {ret : Option FieldType} (h1 : Cond.methodLink own idx y ∈ zz_tbl) (h2 : Cond.static y ∈ zz_tbl) (h4 : Cond.initialized y.cls ∈ zz_tbl) (h5 : Cond.code y b n ret ∈ zz_tbl) : GoodIn zz_tbl (va_wsS own idx y (.code y b n ret :: zz_tbl)) := by
  intro w hw
  refine zz_gw ?_
  rcases List.mem_append.mp hw with h | h
  · simp only [List.mem_cons, List.not_mem_nil, or_false] at h
    rcases h with rfl | rfl | rfl <;> assumption
  · rcases List.mem_cons.mp h with rfl | h
    · exact h5
    · exact h
/-! The state of a system: int scalars, long scalars, int arrays, long arrays, each by a number. -/
abbrev zz_St : Type := (Nat → Int32) × (Nat → Int64) × (Nat → Nat → Int32) × (Nat → Nat → Int64)
def sg_i (u : zz_St) (k : Nat) : Int32 := u.1 k
def sg_l (u : zz_St) (k : Nat) : Int64 := u.2.1 k
def sg_a (u : zz_St) (k : Nat) : Nat → Int32 := u.2.2.1 k
def sg_b (u : zz_St) (k : Nat) : Nat → Int64 := u.2.2.2 k
def ss_i (u : zz_St) (k : Nat) (x : Int32) : zz_St := (fun j => if j = k then x else u.1 j, u.2)
def ss_l (u : zz_St) (k : Nat) (x : Int64) : zz_St := (u.1, fun j => if j = k then x else u.2.1 j, u.2.2)
def ss_a (u : zz_St) (k : Nat) (f : Nat → Int32) : zz_St := (u.1, u.2.1, fun j => if j = k then f else u.2.2.1 j, u.2.2.2)
def ss_b (u : zz_St) (k : Nat) (f : Nat → Int64) : zz_St := (u.1, u.2.1, u.2.2.1, fun j => if j = k then f else u.2.2.2 j)
theorem sx_il (u : zz_St) (j : Nat) (x : Int64) (k : Nat) : sg_i (ss_l u j x) k = sg_i u k := rfl
theorem sx_ia (u : zz_St) (j : Nat) (x : Nat → Int32) (k : Nat) : sg_i (ss_a u j x) k = sg_i u k := rfl
theorem sx_ib (u : zz_St) (j : Nat) (x : Nat → Int64) (k : Nat) : sg_i (ss_b u j x) k = sg_i u k := rfl
theorem sy_i (u : zz_St) {j k : Nat} (x : Int32) (h : k ≠ j) : sg_i (ss_i u j x) k = sg_i u k := if_neg h
theorem sz_i (u : zz_St) (k : Nat) (x : Int32) : sg_i (ss_i u k x) k = x := if_pos rfl
theorem sx_li (u : zz_St) (j : Nat) (x : Int32) (k : Nat) : sg_l (ss_i u j x) k = sg_l u k := rfl
theorem sx_la (u : zz_St) (j : Nat) (x : Nat → Int32) (k : Nat) : sg_l (ss_a u j x) k = sg_l u k := rfl
theorem sx_lb (u : zz_St) (j : Nat) (x : Nat → Int64) (k : Nat) : sg_l (ss_b u j x) k = sg_l u k := rfl
theorem sy_l (u : zz_St) {j k : Nat} (x : Int64) (h : k ≠ j) : sg_l (ss_l u j x) k = sg_l u k := if_neg h
theorem sz_l (u : zz_St) (k : Nat) (x : Int64) : sg_l (ss_l u k x) k = x := if_pos rfl
theorem sx_ai (u : zz_St) (j : Nat) (x : Int32) (k : Nat) : sg_a (ss_i u j x) k = sg_a u k := rfl
theorem sx_al (u : zz_St) (j : Nat) (x : Int64) (k : Nat) : sg_a (ss_l u j x) k = sg_a u k := rfl
theorem sx_ab (u : zz_St) (j : Nat) (x : Nat → Int64) (k : Nat) : sg_a (ss_b u j x) k = sg_a u k := rfl
theorem sy_a (u : zz_St) {j k : Nat} (x : Nat → Int32) (h : k ≠ j) : sg_a (ss_a u j x) k = sg_a u k := if_neg h
theorem sz_a (u : zz_St) (k : Nat) (x : Nat → Int32) : sg_a (ss_a u k x) k = x := if_pos rfl
theorem sx_bi (u : zz_St) (j : Nat) (x : Int32) (k : Nat) : sg_b (ss_i u j x) k = sg_b u k := rfl
theorem sx_bl (u : zz_St) (j : Nat) (x : Int64) (k : Nat) : sg_b (ss_l u j x) k = sg_b u k := rfl
theorem sx_ba (u : zz_St) (j : Nat) (x : Nat → Int32) (k : Nat) : sg_b (ss_a u j x) k = sg_b u k := rfl
theorem sy_b (u : zz_St) {j k : Nat} (x : Nat → Int64) (h : k ≠ j) : sg_b (ss_b u j x) k = sg_b u k := if_neg h
theorem sz_b (u : zz_St) (k : Nat) (x : Nat → Int64) : sg_b (ss_b u k x) k = x := if_pos rfl
/-- what holds all along a method's walk -/
def zz_Cx (p : Program) (s : State) (m : MethodId) (args : Array Value) (meth : Method) (c : Code) (own : String) (cc : ByteArray) (nL : Nat) (ret : Option FieldType) (D : va_G) (cl : List vw_C) (tys : List (ClassId × FieldType)) (A : Nat → Prop) : Prop :=
  p.tables.exec = Jvm.exec ∧ c.code = cc ∧ meth.sig.returnType = ret ∧ c.maxLocals = nL ∧ s.vm.findClass own = some m.cls ∧ (∀ w ∈ zz_tbl, w.before args s = true) ∧ meth.locks = false ∧ va_K D cl tys s ∧ (∀ q : Nat, s.heap.size ≤ q → A q)
/-- the heap holds a world -/
def zz_Wd (D : va_G) (cl : List vw_C) (A : Nat → Prop) (H0 H : Heap) (locs : List Loc) (ws : va_W) : Prop := va_P D cl ws H ∧ va_D A ws ∧ va_S A H0 H locs
/-- what stands behind a method -/
def zz_B (D : va_G) (cl : List vw_C) (tys : List (ClassId × FieldType)) (wf : zz_St → va_W) (A : Nat → Prop) (u : zz_St) (t : State) : Prop := va_P D cl (wf u) t.heap ∧ va_K D cl tys t ∧ va_D A (wf u)
/-- a method's start -/
def zz_Pc (D : va_G) (cl : List vw_C) (tys : List (ClassId × FieldType)) (As : List Value) (sz : Nat) (ws : va_W) : Array Value → State → Prop := va_Pc As (fun U => U.heap.size = sz ∧ va_P D cl ws U.heap ∧ va_K D cl tys U ∧ va_D (fun _ => True) ws)
/-- contracts: an int (or boolean), a long, nothing comes back; no cell is made -/
def zz_MI (l : Launch) (y : MethodName) (Ts : List Cond) (rm : Room) (D : va_G) (cl : List vw_C) (tys : List (ClassId × FieldType)) (wf : zz_St → va_W) (As : List Value) (u : zz_St) (post : Int32 → zz_St → Prop) : Prop :=
  ∀ sz : Nat, Met l y Ts rm (zz_Pc D cl tys As sz (wf u)) (va_Qi post (zz_B D cl tys wf (va_A (wf u) sz)) (va_A (wf u) sz)) 0 0 (va_A (wf u) sz)
def zz_ML (l : Launch) (y : MethodName) (Ts : List Cond) (rm : Room) (D : va_G) (cl : List vw_C) (tys : List (ClassId × FieldType)) (wf : zz_St → va_W) (As : List Value) (u : zz_St) (post : Int64 → zz_St → Prop) : Prop :=
  ∀ sz : Nat, Met l y Ts rm (zz_Pc D cl tys As sz (wf u)) (va_Ql post (zz_B D cl tys wf (va_A (wf u) sz)) (va_A (wf u) sz)) 0 0 (va_A (wf u) sz)
def zz_MV (l : Launch) (y : MethodName) (Ts : List Cond) (rm : Room) (D : va_G) (cl : List vw_C) (tys : List (ClassId × FieldType)) (wf : zz_St → va_W) (As : List Value) (u : zz_St) (post : zz_St → Prop) : Prop :=
  ∀ sz : Nat, Met l y Ts rm (zz_Pc D cl tys As sz (wf u)) (va_Qv post (zz_B D cl tys wf (va_A (wf u) sz)) (va_A (wf u) sz)) 0 0 (va_A (wf u) sz)
theorem zz_blind {D : va_G} {cl : List vw_C} {tys : List (ClassId × FieldType)} {As : List Value} {sz : Nat} {ws : va_W} : FrameBlind (zz_Pc D cl tys As sz ws) := fun a U g mk q => by
  obtain ⟨q0, q1, qP, qK, qD⟩ := q
  exact ⟨q0, q1, qP, va_K.moved (u := U) (U := U.calling g mk a) (Vm.Alike.refl U.vm) qK, qD⟩
theorem zz_sub {D : va_G} {cl : List vw_C} {A : Nat → Prop} {H0 H : Heap} {locs : List Loc} {ws : va_W} (hw : zz_Wd D cl A H0 H locs ws) (hA : ∀ q : Nat, H0.size ≤ q → A q) : ∀ q, va_A ws H.size q → A q := by
  intro q h
  rcases h with ⟨k, e, h⟩ | h
  · exact hw.2.1.2 k (q, e) h
  · exact hA q (Nat.le_trans hw.2.2.1 h)
section ZB
variable {p : Program} {l : Launch} {e : Env} {R : Room} {s : State} {m : MethodId} {args : Array Value} {below : List Frame} {meth : Method} {c : Code} {H : Heap} {locs : List Loc} {cells slots : Nat} {Q : State → Prop}
variable {own : String} {cc : ByteArray} {nL pc : Nat} {ret : Option FieldType} {D : va_G} {cl : List vw_C} {tys : List (ClassId × FieldType)} {A : Nat → Prop} {ws : va_W} {wf : zz_St → va_W} {u : zz_St} {ls : Array Slot} {rest st0 : List Value} {a : Nat}
theorem zz_ofI {y : MethodName} {rm : Room} {As : List Value} {ret : FieldType} {post : Int32 → zz_St → Prop} (hy : plainName y.cls = true) (hlen : (lg_sl As).length ≤ nL)
    (body : ∀ (p : Program) (e : Env) (s : State) (m : MethodId) (below : List Frame) (meth : Method) (c : Code) (A : Nat → Prop), zz_Cx p s m As.toArray meth c y.cls cc nL (some ret) D cl tys A → zz_Wd D cl A s.heap s.heap [] (wf u) → ∀ ls : Array Slot, lv_has ls nL (lv_args 0 As) → W p l e rm s m As.toArray below meth c s.heap [] 0 0 (MQ below (va_Qi post (zz_B D cl tys wf A) A) As.toArray s 0 0 A) (F0 m 0 ls [])) :
    zz_MI l y (.code y cc nL (some ret) :: zz_tbl) rm D cl tys wf As u post := by
  intro sz
  refine Met.ofW (cc := cc) (maxL := nL) (ret := some ret) hy rfl ?_
  intro p e s m args below meth c s₁ B hml hv
  obtain ⟨rfl, hsz, hP, hK, hD0⟩ := hv
  have hts := atoms_spec (ws := .code y cc nL (some ret) :: zz_tbl) B.pre
  subst hsz
  have hD := hD0.self (sz := s.heap.size)
  generalize hAe : va_A (wf u) s.heap.size = A at hD ⊢
  have hA : ∀ q : Nat, s.heap.size ≤ q → A q := fun q h => by rw [← hAe]; exact Or.inr h
  have hl := lv_entry As (n := nL) hlen
  rw [lg_entry_eq]
  exact body p e s m below meth c A ⟨B.exec, B.bytes, B.returns, hml, findClass_of_methodNamed B.named, fun w h => hts w (List.mem_cons_of_mem _ h), B.notSynchronized, hK, hA⟩ ⟨hP, hD, va_S.rf⟩ _ hl
theorem zz_ofL {y : MethodName} {rm : Room} {As : List Value} {ret : FieldType} {post : Int64 → zz_St → Prop} (hy : plainName y.cls = true) (hlen : (lg_sl As).length ≤ nL)
    (body : ∀ (p : Program) (e : Env) (s : State) (m : MethodId) (below : List Frame) (meth : Method) (c : Code) (A : Nat → Prop), zz_Cx p s m As.toArray meth c y.cls cc nL (some ret) D cl tys A → zz_Wd D cl A s.heap s.heap [] (wf u) → ∀ ls : Array Slot, lv_has ls nL (lv_args 0 As) → W p l e rm s m As.toArray below meth c s.heap [] 0 0 (MQ below (va_Ql post (zz_B D cl tys wf A) A) As.toArray s 0 0 A) (F0 m 0 ls [])) :
    zz_ML l y (.code y cc nL (some ret) :: zz_tbl) rm D cl tys wf As u post := by
  intro sz
  refine Met.ofW (cc := cc) (maxL := nL) (ret := some ret) hy rfl ?_
  intro p e s m args below meth c s₁ B hml hv
  obtain ⟨rfl, hsz, hP, hK, hD0⟩ := hv
  have hts := atoms_spec (ws := .code y cc nL (some ret) :: zz_tbl) B.pre
  subst hsz
  have hD := hD0.self (sz := s.heap.size)
  generalize hAe : va_A (wf u) s.heap.size = A at hD ⊢
  have hA : ∀ q : Nat, s.heap.size ≤ q → A q := fun q h => by rw [← hAe]; exact Or.inr h
  have hl := lv_entry As (n := nL) hlen
  rw [lg_entry_eq]
  exact body p e s m below meth c A ⟨B.exec, B.bytes, B.returns, hml, findClass_of_methodNamed B.named, fun w h => hts w (List.mem_cons_of_mem _ h), B.notSynchronized, hK, hA⟩ ⟨hP, hD, va_S.rf⟩ _ hl
theorem zz_ofV {y : MethodName} {rm : Room} {As : List Value} {post : zz_St → Prop} (hy : plainName y.cls = true) (hlen : (lg_sl As).length ≤ nL)
    (body : ∀ (p : Program) (e : Env) (s : State) (m : MethodId) (below : List Frame) (meth : Method) (c : Code) (A : Nat → Prop), zz_Cx p s m As.toArray meth c y.cls cc nL none D cl tys A → zz_Wd D cl A s.heap s.heap [] (wf u) → ∀ ls : Array Slot, lv_has ls nL (lv_args 0 As) → W p l e rm s m As.toArray below meth c s.heap [] 0 0 (MQ below (va_Qv post (zz_B D cl tys wf A) A) As.toArray s 0 0 A) (F0 m 0 ls [])) :
    zz_MV l y (.code y cc nL none :: zz_tbl) rm D cl tys wf As u post := by
  intro sz
  refine Met.ofW (cc := cc) (maxL := nL) (ret := none) hy rfl ?_
  intro p e s m args below meth c s₁ B hml hv
  obtain ⟨rfl, hsz, hP, hK, hD0⟩ := hv
  have hts := atoms_spec (ws := .code y cc nL none :: zz_tbl) B.pre
  subst hsz
  have hD := hD0.self (sz := s.heap.size)
  generalize hAe : va_A (wf u) s.heap.size = A at hD ⊢
  have hA : ∀ q : Nat, s.heap.size ≤ q → A q := fun q h => by rw [← hAe]; exact Or.inr h
  have hl := lv_entry As (n := nL) hlen
  rw [lg_entry_eq]
  exact body p e s m below meth c A ⟨B.exec, B.bytes, B.returns, hml, findClass_of_methodNamed B.named, fun w h => hts w (List.mem_cons_of_mem _ h), B.notSynchronized, hK, hA⟩ ⟨hP, hD, va_S.rf⟩ _ hl
/-! ends -/
theorem zz_reti {post : Int32 → zz_St → Prop} {v : Int32} (cx : zz_Cx p s m args meth c own cc nL (some .int) D cl tys A) (hw : zz_Wd D cl A s.heap H locs (wf u)) (hdg : decode cc pc = .ok (.ireturn, 1)) (h : post v u) : W p l e R s m args below meth c H locs 0 0 (MQ below (va_Qi post (zz_B D cl tys wf A) A) args s 0 0 A) (F0 m pc ls [.int v]) := by
  obtain ⟨hx, hb, hr, hml, hown, hts, hlocks, hK, hA⟩ := cx
  obtain ⟨hP, hD, hS⟩ := hw
  exact W.iret (v := v) hx hb hr (fun t ht hW => ⟨⟨v, u, rfl, h, by rw [ht]; exact hP, va_K.moved hW.alike hK, hD⟩, hS.F ht⟩) hS.2.2 hdg
theorem zz_bz {v : Int32} (h : v = 0 ∨ v = 1) : narrow .boolean (.int v) = .int v ∧ fits .boolean (.int v) = true := by
  rcases h with rfl | rfl <;> exact ⟨rfl, rfl⟩
theorem zz_retz {post : Int32 → zz_St → Prop} {v : Int32} (cx : zz_Cx p s m args meth c own cc nL (some .boolean) D cl tys A) (hw : zz_Wd D cl A s.heap H locs (wf u)) (hdg : decode cc pc = .ok (.ireturn, 1)) (hv : v = 0 ∨ v = 1) (h : post v u) : W p l e R s m args below meth c H locs 0 0 (MQ below (va_Qi post (zz_B D cl tys wf A) A) args s 0 0 A) (F0 m pc ls [.int v]) := by
  obtain ⟨hx, hb, hr, hml, hown, hts, hlocks, hK, hA⟩ := cx
  obtain ⟨hP, hD, hS⟩ := hw
  exact W.zret (v := v) hx hb hr (zz_bz hv).1 (fun t ht hW => ⟨⟨v, u, rfl, h, by rw [ht]; exact hP, va_K.moved hW.alike hK, hD⟩, hS.F ht⟩) hS.2.2 hdg
theorem zz_retl {post : Int64 → zz_St → Prop} {v : Int64} (cx : zz_Cx p s m args meth c own cc nL (some .long) D cl tys A) (hw : zz_Wd D cl A s.heap H locs (wf u)) (hdg : decode cc pc = .ok (.lreturn, 1)) (h : post v u) : W p l e R s m args below meth c H locs 0 0 (MQ below (va_Ql post (zz_B D cl tys wf A) A) args s 0 0 A) (F0 m pc ls [.long v]) := by
  obtain ⟨hx, hb, hr, hml, hown, hts, hlocks, hK, hA⟩ := cx
  obtain ⟨hP, hD, hS⟩ := hw
  exact W.lret (v := v) hx hb hr (fun t ht hW => ⟨⟨v, u, rfl, h, by rw [ht]; exact hP, va_K.moved hW.alike hK, hD⟩, hS.F ht⟩) hS.2.2 hdg
theorem zz_retv {post : zz_St → Prop} (cx : zz_Cx p s m args meth c own cc nL none D cl tys A) (hw : zz_Wd D cl A s.heap H locs (wf u)) (hdg : decode cc pc = .ok (.return_, 1)) (h : post u) : W p l e R s m args below meth c H locs 0 0 (MQ below (va_Qv post (zz_B D cl tys wf A) A) args s 0 0 A) (F0 m pc ls []) := by
  obtain ⟨hx, hb, hr, hml, hown, hts, hlocks, hK, hA⟩ := cx
  obtain ⟨hP, hD, hS⟩ := hw
  exact W.vret hx hb hr (fun t ht hW => ⟨⟨u, rfl, h, by rw [ht]; exact hP, va_K.moved hW.alike hK, hD⟩, hS.F ht⟩) hS.2.2 hdg
/-! fields -/
theorem zz_get (cx : zz_Cx p s m args meth c own cc nL ret D cl tys A) (hw : zz_Wd D cl A s.heap H locs ws) {C : String} {T : u_T} {N ci index : Nat} (hin : ∀ w ∈ u_ws C T N, w ∈ zz_tbl) (q0 : Nat) {fs : List Value} (he : ws[q0]? = some (a, .inr (ci, fs))) (hc : cl[ci]? = some (C, T, N)) (k : Nat) (hk : k < N) (hlink : Cond.fieldLink own index (T k).1 (T k).2.1 (T k).2.2.1 ∈ zz_tbl) {v v2 : Value} (hv : fs[k]? = some v) (hv2 : v = v2) (hdg : decode cc pc = .ok (.getfield index, 3))
    (kk : W p l e R s m args below meth c H locs cells slots Q (F0 m (pc + 3) ls (v2 :: rest))) : W p l e R s m args below meth c H locs cells slots Q (F0 m pc ls (.ref a :: rest)) := by
  obtain ⟨hx, hb, hr, hml, hown, hts, hlocks, hK, hA⟩ := cx
  subst hv2
  exact va_get hx hb hts hin hown hK hw.1 q0 he hc k hk (hts _ hlink) (fun _ h9 => h9) hv hdg kk
theorem zz_put (cx : zz_Cx p s m args meth c own cc nL ret D cl tys A) (hw : zz_Wd D cl A s.heap H locs ws) {C : String} {T : u_T} {N ci index : Nat} (hin : ∀ w ∈ u_ws C T N, w ∈ zz_tbl) (ty0 : Nat → FieldType) (hty : ∀ k, k < N → parseFieldDescriptor (T k).2.2.1 = some (ty0 k)) (hnm : ∀ a, a < N → ∀ b, b < N → a ≠ b → (T a).2.1 ≠ (T b).2.1) (q0 : Nat) {fs : List Value} (he : ws[q0]? = some (a, .inr (ci, fs))) (hc : cl[ci]? = some (C, T, N)) (k : Nat) (hk : k < N) (hlink : Cond.fieldLink own index (T k).1 (T k).2.1 (T k).2.2.1 ∈ zz_tbl) (hfin : (T k).2.2.2 = false) {v : Value} (hn : narrow (ty0 k) v = v ∧ fits (ty0 k) v = true) (hl : k < fs.length) {ws' : va_W} (hws : ws.set q0 (a, .inr (ci, fs.set k v)) = ws') (hdg : decode cc pc = .ok (.putfield index, 3))
    (kk : ∀ (H1 : Heap) (locs1 : List Loc), zz_Wd D cl A s.heap H1 locs1 ws' → W p l e R s m args below meth c H1 locs1 cells slots Q (F0 m (pc + 3) ls rest)) : W p l e R s m args below meth c H locs cells slots Q (F0 m pc ls (v :: .ref a :: rest)) := by
  obtain ⟨hx, hb, hr, hml, hown, hts, hlocks, hK, hA⟩ := cx
  obtain ⟨hP, hD, hS⟩ := hw
  subst hws
  exact va_put hx hb hts hin ty0 hty hnm hown hK hP hD hS q0 he hc k hk (hts _ hlink) (fun _ h9 => h9) hfin (hty k hk) hn.1 hn.2 hl hdg (fun H1 locs1 h1 h2 h3 => kk H1 locs1 ⟨h1, h2, h3⟩)
/-! arrays -/
theorem zz_iald (cx : zz_Cx p s m args meth c own cc nL ret D cl tys A) (hw : zz_Wd D cl A s.heap H locs ws) (q0 t0 : Nat) {cA : ClassId} {n : Nat} {f f2 : Nat → Int32} (ha : ws[q0]? = some (a, .inl (cA, n, .inl f))) (ht : tys[t0]? = some (cA, .int)) {i : Int32} (hin : vp_in i n) (hf : f = f2) (hdg : decode cc pc = .ok (.iaload, 1))
    (kk : W p l e R s m args below meth c H locs cells slots Q (F0 m (pc + 1) ls (.int (f2 i.toNatClampNeg) :: rest))) : W p l e R s m args below meth c H locs cells slots Q (F0 m pc ls (.int i :: .ref a :: rest)) := by
  obtain ⟨hx, hb, hr, hml, hown, hts, hlocks, hK, hA⟩ := cx
  subst hf
  exact va_iald hx hb hK hw.1 q0 t0 ha ht hin hdg kk
theorem zz_zald (cx : zz_Cx p s m args meth c own cc nL ret D cl tys A) (hw : zz_Wd D cl A s.heap H locs ws) (q0 t0 : Nat) {cA : ClassId} {n : Nat} {f f2 : Nat → Int32} (ha : ws[q0]? = some (a, .inl (cA, n, .inl f))) (ht : tys[t0]? = some (cA, .boolean)) {i : Int32} (hin : vp_in i n) (hf : f = f2) (hdg : decode cc pc = .ok (.baload, 1))
    (kk : W p l e R s m args below meth c H locs cells slots Q (F0 m (pc + 1) ls (.int (f2 i.toNatClampNeg) :: rest))) : W p l e R s m args below meth c H locs cells slots Q (F0 m pc ls (.int i :: .ref a :: rest)) := by
  obtain ⟨hx, hb, hr, hml, hown, hts, hlocks, hK, hA⟩ := cx
  subst hf
  exact va_zald hx hb hK hw.1 q0 t0 ha ht hin hdg kk
theorem zz_lald (cx : zz_Cx p s m args meth c own cc nL ret D cl tys A) (hw : zz_Wd D cl A s.heap H locs ws) (q0 t0 : Nat) {cA : ClassId} {n : Nat} {f f2 : Nat → Int64} (ha : ws[q0]? = some (a, .inl (cA, n, .inr (.inl f)))) (ht : tys[t0]? = some (cA, .long)) {i : Int32} (hin : vp_in i n) (hf : f = f2) (hdg : decode cc pc = .ok (.laload, 1))
    (kk : W p l e R s m args below meth c H locs cells slots Q (F0 m (pc + 1) ls (.long (f2 i.toNatClampNeg) :: rest))) : W p l e R s m args below meth c H locs cells slots Q (F0 m pc ls (.int i :: .ref a :: rest)) := by
  obtain ⟨hx, hb, hr, hml, hown, hts, hlocks, hK, hA⟩ := cx
  subst hf
  exact va_lald hx hb hK hw.1 q0 t0 ha ht hin hdg kk
theorem zz_iast (cx : zz_Cx p s m args meth c own cc nL ret D cl tys A) (hw : zz_Wd D cl A s.heap H locs ws) (q0 t0 : Nat) {cA : ClassId} {n : Nat} {f f2 : Nat → Int32} (ha : ws[q0]? = some (a, .inl (cA, n, .inl f))) (ht : tys[t0]? = some (cA, .int)) {i x : Int32} (hin : vp_in i n) (hf : f = f2) {ws' : va_W} (hws : ws.set q0 (a, .inl (cA, n, .inl (upd f2 i.toNatClampNeg x))) = ws') (hdg : decode cc pc = .ok (.iastore, 1))
    (kk : ∀ (H1 : Heap) (locs1 : List Loc), zz_Wd D cl A s.heap H1 locs1 ws' → W p l e R s m args below meth c H1 locs1 cells slots Q (F0 m (pc + 1) ls rest)) : W p l e R s m args below meth c H locs cells slots Q (F0 m pc ls (.int x :: .int i :: .ref a :: rest)) := by
  obtain ⟨hx, hb, hr, hml, hown, hts, hlocks, hK, hA⟩ := cx
  obtain ⟨hP, hD, hS⟩ := hw
  subst hf
  subst hws
  exact va_iast hx hb hK hP hD hS q0 t0 ha ht hin hdg (fun H1 locs1 h1 h2 h3 => kk H1 locs1 ⟨h1, h2, h3⟩)
theorem zz_zast (cx : zz_Cx p s m args meth c own cc nL ret D cl tys A) (hw : zz_Wd D cl A s.heap H locs ws) (q0 t0 : Nat) {cA : ClassId} {n : Nat} {f f2 : Nat → Int32} (ha : ws[q0]? = some (a, .inl (cA, n, .inl f))) (ht : tys[t0]? = some (cA, .boolean)) {i x : Int32} (hin : vp_in i n) (hx0 : x = 0 ∨ x = 1) (hf : f = f2) {ws' : va_W} (hws : ws.set q0 (a, .inl (cA, n, .inl (upd f2 i.toNatClampNeg x))) = ws') (hdg : decode cc pc = .ok (.bastore, 1))
    (kk : ∀ (H1 : Heap) (locs1 : List Loc), zz_Wd D cl A s.heap H1 locs1 ws' → W p l e R s m args below meth c H1 locs1 cells slots Q (F0 m (pc + 1) ls rest)) : W p l e R s m args below meth c H locs cells slots Q (F0 m pc ls (.int x :: .int i :: .ref a :: rest)) := by
  obtain ⟨hx, hb, hr, hml, hown, hts, hlocks, hK, hA⟩ := cx
  obtain ⟨hP, hD, hS⟩ := hw
  subst hf
  subst hws
  have hnar : vp_nar .boolean x = x := by rcases hx0 with rfl | rfl <;> rfl
  exact va_zast hx hb hK hP hD hS q0 t0 ha ht hin hdg (fun H1 locs1 h1 h2 h3 => by rw [hnar] at h1 h2; exact kk H1 locs1 ⟨h1, h2, h3⟩)
theorem zz_last (cx : zz_Cx p s m args meth c own cc nL ret D cl tys A) (hw : zz_Wd D cl A s.heap H locs ws) (q0 t0 : Nat) {cA : ClassId} {n : Nat} {f f2 : Nat → Int64} (ha : ws[q0]? = some (a, .inl (cA, n, .inr (.inl f)))) (ht : tys[t0]? = some (cA, .long)) {i : Int32} {x : Int64} (hin : vp_in i n) (hf : f = f2) {ws' : va_W} (hws : ws.set q0 (a, .inl (cA, n, .inr (.inl (vp_updL f2 i.toNatClampNeg x)))) = ws') (hdg : decode cc pc = .ok (.lastore, 1))
    (kk : ∀ (H1 : Heap) (locs1 : List Loc), zz_Wd D cl A s.heap H1 locs1 ws' → W p l e R s m args below meth c H1 locs1 cells slots Q (F0 m (pc + 1) ls rest)) : W p l e R s m args below meth c H locs cells slots Q (F0 m pc ls (.long x :: .int i :: .ref a :: rest)) := by
  obtain ⟨hx, hb, hr, hml, hown, hts, hlocks, hK, hA⟩ := cx
  obtain ⟨hP, hD, hS⟩ := hw
  subst hf
  subst hws
  exact va_last hx hb hK hP hD hS q0 t0 ha ht hin hdg (fun H1 locs1 h1 h2 h3 => kk H1 locs1 ⟨h1, h2, h3⟩)
theorem zz_copyi (cx : zz_Cx p s m args meth c own cc nL ret D cl tys A) (hw : zz_Wd D cl A s.heap H locs ws) {index : Nat} (hls : ls.size = nL) (hlink : Cond.methodLink own index arraycopyName ∈ zz_tbl) (hnat : Cond.native arraycopyName ∈ zz_tbl) (hstat : Cond.static arraycopyName ∈ zz_tbl) (hini : Cond.initialized "java/lang/System" ∈ zz_tbl) (q0 q1 t0 : Nat) {a0 : Nat} {c0 : ClassId} {n0 n1 : Nat} {f g f2 g2 : Nat → Int32} {ty : FieldType} (ha0 : ws[q0]? = some (a0, .inl (c0, n0, .inl f))) (ha1 : ws[q1]? = some (a, .inl (c0, n1, .inl g))) (ht0 : tys[t0]? = some (c0, ty)) (hprim : refKind ty = false) (hft : ∀ z : Int32, fits ty (.int z) = true) (hf : f = f2) (hg : g = g2)
    {sp dp n : Int32} (h1 : ¬ sp < 0) (h2 : ¬ dp < 0) (h3 : ¬ n < 0) (h4 : sp.toNatClampNeg + n.toNatClampNeg ≤ n0) (h5 : dp.toNatClampNeg + n.toNatClampNeg ≤ n1) (hframes : 1 ≤ R.frames) (hlocals : (rest.map fun v => v.category).sum + (nativeFrameWords "java/lang/System" "arraycopy" 5 + 11) ≤ R.locals) {ws' : va_W} (hws : ws.set q1 (a, .inl (c0, n1, .inl (va_cpy f2 g2 sp.toNatClampNeg dp.toNatClampNeg n.toNatClampNeg))) = ws') (hdg : decode cc pc = .ok (.invokestatic index, 3))
    (kk : ∀ (H1 : Heap) (locs1 : List Loc), zz_Wd D cl A s.heap H1 locs1 ws' → W p l e R s m args below meth c H1 locs1 cells slots Q (F0 m (pc + 3) ls rest)) : W p l e R s m args below meth c H locs cells slots Q (F0 m pc ls (.int n :: .int dp :: .ref a :: .int sp :: .ref a0 :: rest)) := by
  obtain ⟨hx, hb, hr, hml, hown, hts, hlocks, hK, hA⟩ := cx
  obtain ⟨hP, hD, hS⟩ := hw
  subst hf; subst hg; subst hws
  exact va_copyi hx hb (hml.trans hls.symm) hown (hts _ hlink) (hts _ hnat) (hts _ hstat) (hts _ hini) hK hP hD hS q0 q1 t0 t0 ha0 ha1 ht0 ht0 hprim h1 h2 h3 h4 h5 (fun _ _ => hft _) hframes hlocals hdg (fun H1 locs1 h1 h2 h3 => kk H1 locs1 ⟨h1, h2, h3⟩)
theorem zz_copyl (cx : zz_Cx p s m args meth c own cc nL ret D cl tys A) (hw : zz_Wd D cl A s.heap H locs ws) {index : Nat} (hls : ls.size = nL) (hlink : Cond.methodLink own index arraycopyName ∈ zz_tbl) (hnat : Cond.native arraycopyName ∈ zz_tbl) (hstat : Cond.static arraycopyName ∈ zz_tbl) (hini : Cond.initialized "java/lang/System" ∈ zz_tbl) (q0 q1 t0 : Nat) {a0 : Nat} {c0 : ClassId} {n0 n1 : Nat} {f g f2 g2 : Nat → Int64} {ty : FieldType} (ha0 : ws[q0]? = some (a0, .inl (c0, n0, .inr (.inl f)))) (ha1 : ws[q1]? = some (a, .inl (c0, n1, .inr (.inl g)))) (ht0 : tys[t0]? = some (c0, ty)) (hprim : refKind ty = false) (hft : ∀ z : Int64, fits ty (.long z) = true) (hf : f = f2) (hg : g = g2)
    {sp dp n : Int32} (h1 : ¬ sp < 0) (h2 : ¬ dp < 0) (h3 : ¬ n < 0) (h4 : sp.toNatClampNeg + n.toNatClampNeg ≤ n0) (h5 : dp.toNatClampNeg + n.toNatClampNeg ≤ n1) (hframes : 1 ≤ R.frames) (hlocals : (rest.map fun v => v.category).sum + (nativeFrameWords "java/lang/System" "arraycopy" 5 + 11) ≤ R.locals) {ws' : va_W} (hws : ws.set q1 (a, .inl (c0, n1, .inr (.inl (va_cpy f2 g2 sp.toNatClampNeg dp.toNatClampNeg n.toNatClampNeg)))) = ws') (hdg : decode cc pc = .ok (.invokestatic index, 3))
    (kk : ∀ (H1 : Heap) (locs1 : List Loc), zz_Wd D cl A s.heap H1 locs1 ws' → W p l e R s m args below meth c H1 locs1 cells slots Q (F0 m (pc + 3) ls rest)) : W p l e R s m args below meth c H locs cells slots Q (F0 m pc ls (.int n :: .int dp :: .ref a :: .int sp :: .ref a0 :: rest)) := by
  obtain ⟨hx, hb, hr, hml, hown, hts, hlocks, hK, hA⟩ := cx
  obtain ⟨hP, hD, hS⟩ := hw
  subst hf; subst hg; subst hws
  exact va_copyl hx hb (hml.trans hls.symm) hown (hts _ hlink) (hts _ hnat) (hts _ hstat) (hts _ hini) hK hP hD hS q0 q1 t0 t0 ha0 ha1 ht0 ht0 hprim h1 h2 h3 h4 h5 (fun _ _ => hft _) hframes hlocals hdg (fun H1 locs1 h1 h2 h3 => kk H1 locs1 ⟨h1, h2, h3⟩)
end ZB
end
section
section ZC
variable {p : Program} {l : Launch} {e : Env} {R : Room} {s : State} {m : MethodId} {args : Array Value} {below : List Frame} {meth : Method} {c : Code} {H : Heap} {locs : List Loc} {Q : State → Prop}
variable {own : String} {cc bytes : ByteArray} {nL maxL pc n index : Nat} {ret : Option FieldType} {rt : FieldType} {D : va_G} {cl : List vw_C} {tys : List (ClassId × FieldType)} {A : Nat → Prop} {wf : zz_St → va_W} {u : zz_St} {ls : Array Slot} {As rest st0 : List Value} {a : Nat} {y : MethodName} {rm : Room}
theorem zz_callVi {post : Int32 → zz_St → Prop} (cx : zz_Cx p s m args meth c own cc nL ret D cl tys A) (hw : zz_Wd D cl A s.heap H locs (wf u)) (hM : zz_MI l y (.code y bytes maxL (some rt) :: zz_tbl) rm D cl tys wf (.ref a :: As) u post) (hg : GoodIn zz_tbl (wsV own index y.cls y (.code y bytes maxL (some rt) :: zz_tbl))) (hd : y.cls ≠ "java/lang/invoke/MethodHandle" ∧ y.cls ≠ "java/lang/invoke/VarHandle" ∧ (parseMethodDescriptor y.desc).map (fun d => d.parameters.length) = some n) (hrm : rm.cells = 0 ∧ rm.slots = 0) (hR : rm.frames + 1 ≤ R.frames ∧ 8 + (maxL + 11) + rm.locals ≤ R.locals) (q0 : Nat) {ci : Nat} {fs : List Value} {q : vw_C} (he : (wf u)[q0]? = some (a, .inr (ci, fs))) (hc : cl[ci]? = some q) (hq : q.1 = y.cls) (hn : As.length = n) (hls : ls.size = nL) (hst : st0 = As.reverse ++ .ref a :: rest) (hro : (rest.map fun v => v.category).sum ≤ 8) (hdg : decode cc pc = .ok (.invokevirtual index, 3))
    (kk : ∀ (r : Int32) (u1 : zz_St) (H1 : Heap) (locs1 : List Loc), post r u1 → zz_Wd D cl A s.heap H1 locs1 (wf u1) → W p l e R s m args below meth c H1 locs1 0 0 Q (F0 m (pc + 3) ls (.int r :: rest))) : W p l e R s m args below meth c H locs 0 0 Q (F0 m pc ls st0) := by
  have hF := zz_sub hw cx.2.2.2.2.2.2.2.2
  obtain ⟨hx, hb, hr, hml, hown, hts, hlocks, hK, hA⟩ := cx
  obtain ⟨hP, hD, hS⟩ := hw
  refine va_calli (va_runV (As := As) (rest := rest) ⟨hx, hb, hml, hown, hts⟩ (hM H.size) (cwV n hts hg rfl hrm.1 hrm.2 ⟨rfl, hd⟩ hR) ⟨zz_blind, by have hrv := va_recv hK hP hc he; rw [hq] at hrv; exact hrv, fun U hU hW => ⟨rfl, by rw [hU], by rw [hU]; exact hP, va_K.moved hW.alike hK, hD.weaken (fun _ _ _ _ => trivial)⟩⟩ rfl hn hls hst (lv_room hro) hdg ⟨Nat.zero_le _, Nat.zero_le _⟩) hS (fun q _ h => hF q h) hF (fun r u1 t H1 locs1 ht hvm hp hB hz1 hk1 hS1 => ?_)
  obtain ⟨hP1, hK1, hD1⟩ := hB
  rw [ht] at hP1
  exact kk r u1 H1 locs1 hp ⟨hP1, hD1.weaken (fun _ q _ h => hF q.1 h), hS1⟩
theorem zz_callSi {post : Int32 → zz_St → Prop} (cx : zz_Cx p s m args meth c own cc nL ret D cl tys A) (hw : zz_Wd D cl A s.heap H locs (wf u)) (hM : zz_MI l y (.code y bytes maxL (some rt) :: zz_tbl) rm D cl tys wf As u post) (hg : GoodIn zz_tbl (va_wsS own index y (.code y bytes maxL (some rt) :: zz_tbl))) (hd : y.cls ≠ "java/lang/invoke/MethodHandle" ∧ y.cls ≠ "java/lang/invoke/VarHandle" ∧ (parseMethodDescriptor y.desc).map (fun d => d.parameters.length) = some n) (hrm : rm.cells = 0 ∧ rm.slots = 0) (hR : rm.frames + 1 ≤ R.frames ∧ 8 + (maxL + 11) + rm.locals ≤ R.locals) (hn : As.length = n) (hls : ls.size = nL) (hst : st0 = As.reverse ++ rest) (hro : (rest.map fun v => v.category).sum ≤ 8) (hdg : decode cc pc = .ok (.invokestatic index, 3))
    (kk : ∀ (r : Int32) (u1 : zz_St) (H1 : Heap) (locs1 : List Loc), post r u1 → zz_Wd D cl A s.heap H1 locs1 (wf u1) → W p l e R s m args below meth c H1 locs1 0 0 Q (F0 m (pc + 3) ls (.int r :: rest))) : W p l e R s m args below meth c H locs 0 0 Q (F0 m pc ls st0) := by
  have hF := zz_sub hw cx.2.2.2.2.2.2.2.2
  obtain ⟨hx, hb, hr, hml, hown, hts, hlocks, hK, hA⟩ := cx
  obtain ⟨hP, hD, hS⟩ := hw
  refine va_calli (va_runS (As := As) (rest := rest) ⟨hx, hb, hml, hown, hts⟩ (hM H.size) (va_cwS n hts hg rfl hrm.1 hrm.2 hd hR) ⟨zz_blind, fun U hU hW => ⟨rfl, by rw [hU], by rw [hU]; exact hP, va_K.moved hW.alike hK, hD.weaken (fun _ _ _ _ => trivial)⟩⟩ rfl hn hls hst (lv_room hro) hdg ⟨Nat.zero_le _, Nat.zero_le _⟩) hS (fun q _ h => hF q h) hF (fun r u1 t H1 locs1 ht hvm hp hB hz1 hk1 hS1 => ?_)
  obtain ⟨hP1, hK1, hD1⟩ := hB
  rw [ht] at hP1
  exact kk r u1 H1 locs1 hp ⟨hP1, hD1.weaken (fun _ q _ h => hF q.1 h), hS1⟩
theorem zz_callVl {post : Int64 → zz_St → Prop} (cx : zz_Cx p s m args meth c own cc nL ret D cl tys A) (hw : zz_Wd D cl A s.heap H locs (wf u)) (hM : zz_ML l y (.code y bytes maxL (some rt) :: zz_tbl) rm D cl tys wf (.ref a :: As) u post) (hg : GoodIn zz_tbl (wsV own index y.cls y (.code y bytes maxL (some rt) :: zz_tbl))) (hd : y.cls ≠ "java/lang/invoke/MethodHandle" ∧ y.cls ≠ "java/lang/invoke/VarHandle" ∧ (parseMethodDescriptor y.desc).map (fun d => d.parameters.length) = some n) (hrm : rm.cells = 0 ∧ rm.slots = 0) (hR : rm.frames + 1 ≤ R.frames ∧ 8 + (maxL + 11) + rm.locals ≤ R.locals) (q0 : Nat) {ci : Nat} {fs : List Value} {q : vw_C} (he : (wf u)[q0]? = some (a, .inr (ci, fs))) (hc : cl[ci]? = some q) (hq : q.1 = y.cls) (hn : As.length = n) (hls : ls.size = nL) (hst : st0 = As.reverse ++ .ref a :: rest) (hro : (rest.map fun v => v.category).sum ≤ 8) (hdg : decode cc pc = .ok (.invokevirtual index, 3))
    (kk : ∀ (r : Int64) (u1 : zz_St) (H1 : Heap) (locs1 : List Loc), post r u1 → zz_Wd D cl A s.heap H1 locs1 (wf u1) → W p l e R s m args below meth c H1 locs1 0 0 Q (F0 m (pc + 3) ls (.long r :: rest))) : W p l e R s m args below meth c H locs 0 0 Q (F0 m pc ls st0) := by
  have hF := zz_sub hw cx.2.2.2.2.2.2.2.2
  obtain ⟨hx, hb, hr, hml, hown, hts, hlocks, hK, hA⟩ := cx
  obtain ⟨hP, hD, hS⟩ := hw
  refine va_calll (va_runV (As := As) (rest := rest) ⟨hx, hb, hml, hown, hts⟩ (hM H.size) (cwV n hts hg rfl hrm.1 hrm.2 ⟨rfl, hd⟩ hR) ⟨zz_blind, by have hrv := va_recv hK hP hc he; rw [hq] at hrv; exact hrv, fun U hU hW => ⟨rfl, by rw [hU], by rw [hU]; exact hP, va_K.moved hW.alike hK, hD.weaken (fun _ _ _ _ => trivial)⟩⟩ rfl hn hls hst (lv_room hro) hdg ⟨Nat.zero_le _, Nat.zero_le _⟩) hS (fun q _ h => hF q h) hF (fun r u1 t H1 locs1 ht hvm hp hB hz1 hk1 hS1 => ?_)
  obtain ⟨hP1, hK1, hD1⟩ := hB
  rw [ht] at hP1
  exact kk r u1 H1 locs1 hp ⟨hP1, hD1.weaken (fun _ q _ h => hF q.1 h), hS1⟩
theorem zz_callSl {post : Int64 → zz_St → Prop} (cx : zz_Cx p s m args meth c own cc nL ret D cl tys A) (hw : zz_Wd D cl A s.heap H locs (wf u)) (hM : zz_ML l y (.code y bytes maxL (some rt) :: zz_tbl) rm D cl tys wf As u post) (hg : GoodIn zz_tbl (va_wsS own index y (.code y bytes maxL (some rt) :: zz_tbl))) (hd : y.cls ≠ "java/lang/invoke/MethodHandle" ∧ y.cls ≠ "java/lang/invoke/VarHandle" ∧ (parseMethodDescriptor y.desc).map (fun d => d.parameters.length) = some n) (hrm : rm.cells = 0 ∧ rm.slots = 0) (hR : rm.frames + 1 ≤ R.frames ∧ 8 + (maxL + 11) + rm.locals ≤ R.locals) (hn : As.length = n) (hls : ls.size = nL) (hst : st0 = As.reverse ++ rest) (hro : (rest.map fun v => v.category).sum ≤ 8) (hdg : decode cc pc = .ok (.invokestatic index, 3))
    (kk : ∀ (r : Int64) (u1 : zz_St) (H1 : Heap) (locs1 : List Loc), post r u1 → zz_Wd D cl A s.heap H1 locs1 (wf u1) → W p l e R s m args below meth c H1 locs1 0 0 Q (F0 m (pc + 3) ls (.long r :: rest))) : W p l e R s m args below meth c H locs 0 0 Q (F0 m pc ls st0) := by
  have hF := zz_sub hw cx.2.2.2.2.2.2.2.2
  obtain ⟨hx, hb, hr, hml, hown, hts, hlocks, hK, hA⟩ := cx
  obtain ⟨hP, hD, hS⟩ := hw
  refine va_calll (va_runS (As := As) (rest := rest) ⟨hx, hb, hml, hown, hts⟩ (hM H.size) (va_cwS n hts hg rfl hrm.1 hrm.2 hd hR) ⟨zz_blind, fun U hU hW => ⟨rfl, by rw [hU], by rw [hU]; exact hP, va_K.moved hW.alike hK, hD.weaken (fun _ _ _ _ => trivial)⟩⟩ rfl hn hls hst (lv_room hro) hdg ⟨Nat.zero_le _, Nat.zero_le _⟩) hS (fun q _ h => hF q h) hF (fun r u1 t H1 locs1 ht hvm hp hB hz1 hk1 hS1 => ?_)
  obtain ⟨hP1, hK1, hD1⟩ := hB
  rw [ht] at hP1
  exact kk r u1 H1 locs1 hp ⟨hP1, hD1.weaken (fun _ q _ h => hF q.1 h), hS1⟩
theorem zz_callVv {post : zz_St → Prop} (cx : zz_Cx p s m args meth c own cc nL ret D cl tys A) (hw : zz_Wd D cl A s.heap H locs (wf u)) (hM : zz_MV l y (.code y bytes maxL (none) :: zz_tbl) rm D cl tys wf (.ref a :: As) u post) (hg : GoodIn zz_tbl (wsV own index y.cls y (.code y bytes maxL (none) :: zz_tbl))) (hd : y.cls ≠ "java/lang/invoke/MethodHandle" ∧ y.cls ≠ "java/lang/invoke/VarHandle" ∧ (parseMethodDescriptor y.desc).map (fun d => d.parameters.length) = some n) (hrm : rm.cells = 0 ∧ rm.slots = 0) (hR : rm.frames + 1 ≤ R.frames ∧ 8 + (maxL + 11) + rm.locals ≤ R.locals) (q0 : Nat) {ci : Nat} {fs : List Value} {q : vw_C} (he : (wf u)[q0]? = some (a, .inr (ci, fs))) (hc : cl[ci]? = some q) (hq : q.1 = y.cls) (hn : As.length = n) (hls : ls.size = nL) (hst : st0 = As.reverse ++ .ref a :: rest) (hro : (rest.map fun v => v.category).sum ≤ 8) (hdg : decode cc pc = .ok (.invokevirtual index, 3))
    (kk : ∀ (u1 : zz_St) (H1 : Heap) (locs1 : List Loc), post u1 → zz_Wd D cl A s.heap H1 locs1 (wf u1) → W p l e R s m args below meth c H1 locs1 0 0 Q (F0 m (pc + 3) ls (rest))) : W p l e R s m args below meth c H locs 0 0 Q (F0 m pc ls st0) := by
  have hF := zz_sub hw cx.2.2.2.2.2.2.2.2
  obtain ⟨hx, hb, hr, hml, hown, hts, hlocks, hK, hA⟩ := cx
  obtain ⟨hP, hD, hS⟩ := hw
  refine va_callv (va_runV (As := As) (rest := rest) ⟨hx, hb, hml, hown, hts⟩ (hM H.size) (cwV n hts hg rfl hrm.1 hrm.2 ⟨rfl, hd⟩ hR) ⟨zz_blind, by have hrv := va_recv hK hP hc he; rw [hq] at hrv; exact hrv, fun U hU hW => ⟨rfl, by rw [hU], by rw [hU]; exact hP, va_K.moved hW.alike hK, hD.weaken (fun _ _ _ _ => trivial)⟩⟩ rfl hn hls hst (lv_room hro) hdg ⟨Nat.zero_le _, Nat.zero_le _⟩) hS (fun q _ h => hF q h) hF (fun u1 t H1 locs1 ht hvm hp hB hz1 hk1 hS1 => ?_)
  obtain ⟨hP1, hK1, hD1⟩ := hB
  rw [ht] at hP1
  exact kk u1 H1 locs1 hp ⟨hP1, hD1.weaken (fun _ q _ h => hF q.1 h), hS1⟩
theorem zz_callSv {post : zz_St → Prop} (cx : zz_Cx p s m args meth c own cc nL ret D cl tys A) (hw : zz_Wd D cl A s.heap H locs (wf u)) (hM : zz_MV l y (.code y bytes maxL (none) :: zz_tbl) rm D cl tys wf As u post) (hg : GoodIn zz_tbl (va_wsS own index y (.code y bytes maxL (none) :: zz_tbl))) (hd : y.cls ≠ "java/lang/invoke/MethodHandle" ∧ y.cls ≠ "java/lang/invoke/VarHandle" ∧ (parseMethodDescriptor y.desc).map (fun d => d.parameters.length) = some n) (hrm : rm.cells = 0 ∧ rm.slots = 0) (hR : rm.frames + 1 ≤ R.frames ∧ 8 + (maxL + 11) + rm.locals ≤ R.locals) (hn : As.length = n) (hls : ls.size = nL) (hst : st0 = As.reverse ++ rest) (hro : (rest.map fun v => v.category).sum ≤ 8) (hdg : decode cc pc = .ok (.invokestatic index, 3))
    (kk : ∀ (u1 : zz_St) (H1 : Heap) (locs1 : List Loc), post u1 → zz_Wd D cl A s.heap H1 locs1 (wf u1) → W p l e R s m args below meth c H1 locs1 0 0 Q (F0 m (pc + 3) ls (rest))) : W p l e R s m args below meth c H locs 0 0 Q (F0 m pc ls st0) := by
  have hF := zz_sub hw cx.2.2.2.2.2.2.2.2
  obtain ⟨hx, hb, hr, hml, hown, hts, hlocks, hK, hA⟩ := cx
  obtain ⟨hP, hD, hS⟩ := hw
  refine va_callv (va_runS (As := As) (rest := rest) ⟨hx, hb, hml, hown, hts⟩ (hM H.size) (va_cwS n hts hg rfl hrm.1 hrm.2 hd hR) ⟨zz_blind, fun U hU hW => ⟨rfl, by rw [hU], by rw [hU]; exact hP, va_K.moved hW.alike hK, hD.weaken (fun _ _ _ _ => trivial)⟩⟩ rfl hn hls hst (lv_room hro) hdg ⟨Nat.zero_le _, Nat.zero_le _⟩) hS (fun q _ h => hF q h) hF (fun u1 t H1 locs1 ht hvm hp hB hz1 hk1 hS1 => ?_)
  obtain ⟨hP1, hK1, hD1⟩ := hB
  rw [ht] at hP1
  exact kk u1 H1 locs1 hp ⟨hP1, hD1.weaken (fun _ q _ h => hF q.1 h), hS1⟩
end ZC
end
section
def ft_X : u_T := fun k => match k with
  | 0 => ("GridFills", "grid", "LGridFills$Grid;", true)
  | 1 => ("GridFills", "list", "LGridFills$WordList;", true)
  | 2 => ("GridFills", "found", "LGridFills$Filling;", true)
  | _ => ("GridFills", "search", "LGridFills$Search;", true)
def ty_X : Nat → FieldType := fun k => match k with
  | 0 => .object "GridFills$Grid"
  | 1 => .object "GridFills$WordList"
  | 2 => .object "GridFills$Filling"
  | _ => .object "GridFills$Search"
theorem nm_X : ∀ a, a < 4 → ∀ b, b < 4 → a ≠ b → (ft_X a).2.1 ≠ (ft_X b).2.1 := by decide +kernel
theorem tk_X : ∀ k, k < 4 → parseFieldDescriptor (ft_X k).2.2.1 = some (ty_X k) := by decide +kernel
theorem in_X : ∀ w ∈ u_ws "GridFills" ft_X 4, w ∈ zz_tbl := by decide +kernel
def ft_G : u_T := fun k => match k with
  | 0 => ("GridFills$Grid", "width", "I", true)
  | 1 => ("GridFills$Grid", "height", "I", true)
  | 2 => ("GridFills$Grid", "cellCount", "I", true)
  | 3 => ("GridFills$Grid", "isBlack", "[Z", true)
  | 4 => ("GridFills$Grid", "givenAt", "[I", true)
  | 5 => ("GridFills$Grid", "slotCount", "I", false)
  | 6 => ("GridFills$Grid", "firstOf", "[I", true)
  | 7 => ("GridFills$Grid", "lengthOf", "[I", true)
  | 8 => ("GridFills$Grid", "directionOf", "[I", true)
  | 9 => ("GridFills$Grid", "themeOf", "[I", true)
  | 10 => ("GridFills$Grid", "slotThrough", "[I", true)
  | 11 => ("GridFills$Grid", "placeThrough", "[I", true)
  | _ => ("GridFills$Grid", "partOf", "[I", true)
def ty_G : Nat → FieldType := fun k => match k with
  | 0 => .int
  | 1 => .int
  | 2 => .int
  | 3 => .array .boolean
  | 4 => .array .int
  | 5 => .int
  | 6 => .array .int
  | 7 => .array .int
  | 8 => .array .int
  | 9 => .array .int
  | 10 => .array .int
  | 11 => .array .int
  | _ => .array .int
theorem nm_G : ∀ a, a < 13 → ∀ b, b < 13 → a ≠ b → (ft_G a).2.1 ≠ (ft_G b).2.1 := by decide +kernel
theorem tk_G : ∀ k, k < 13 → parseFieldDescriptor (ft_G k).2.2.1 = some (ty_G k) := by decide +kernel
theorem in_G : ∀ w ∈ u_ws "GridFills$Grid" ft_G 13, w ∈ zz_tbl := by decide +kernel
def ft_L : u_T := fun k => match k with
  | 0 => ("GridFills$WordList", "count", "I", false)
  | 1 => ("GridFills$WordList", "lengthOf", "[I", true)
  | 2 => ("GridFills$WordList", "scoreOf", "[I", true)
  | 3 => ("GridFills$WordList", "wordOfRank", "[I", true)
  | 4 => ("GridFills$WordList", "rankOf", "[I", true)
  | 5 => ("GridFills$WordList", "lowOfLength", "[J", true)
  | 6 => ("GridFills$WordList", "highOfLength", "[J", true)
  | 7 => ("GridFills$WordList", "lowOfKey", "[J", true)
  | 8 => ("GridFills$WordList", "highOfKey", "[J", true)
  | 9 => ("GridFills$WordList", "letters", "[I", true)
  | 10 => ("GridFills$WordList", "collected", "[I", true)
  | _ => ("GridFills$WordList", "collectedCount", "I", false)
def ty_L : Nat → FieldType := fun k => match k with
  | 0 => .int
  | 1 => .array .int
  | 2 => .array .int
  | 3 => .array .int
  | 4 => .array .int
  | 5 => .array .long
  | 6 => .array .long
  | 7 => .array .long
  | 8 => .array .long
  | 9 => .array .int
  | 10 => .array .int
  | _ => .int
theorem nm_L : ∀ a, a < 12 → ∀ b, b < 12 → a ≠ b → (ft_L a).2.1 ≠ (ft_L b).2.1 := by decide +kernel
theorem tk_L : ∀ k, k < 12 → parseFieldDescriptor (ft_L k).2.2.1 = some (ty_L k) := by decide +kernel
theorem in_L : ∀ w ∈ u_ws "GridFills$WordList" ft_L 12, w ∈ zz_tbl := by decide +kernel
def ft_F : u_T := fun k => match k with
  | 0 => ("GridFills$Filling", "grid", "LGridFills$Grid;", true)
  | 1 => ("GridFills$Filling", "list", "LGridFills$WordList;", true)
  | 2 => ("GridFills$Filling", "wordIn", "[I", true)
  | _ => ("GridFills$Filling", "total", "I", false)
def ty_F : Nat → FieldType := fun k => match k with
  | 0 => .object "GridFills$Grid"
  | 1 => .object "GridFills$WordList"
  | 2 => .array .int
  | _ => .int
theorem nm_F : ∀ a, a < 4 → ∀ b, b < 4 → a ≠ b → (ft_F a).2.1 ≠ (ft_F b).2.1 := by decide +kernel
theorem tk_F : ∀ k, k < 4 → parseFieldDescriptor (ft_F k).2.2.1 = some (ty_F k) := by decide +kernel
theorem in_F : ∀ w ∈ u_ws "GridFills$Filling" ft_F 4, w ∈ zz_tbl := by decide +kernel
def ft_S : u_T := fun k => match k with
  | 0 => ("GridFills$Search", "grid", "LGridFills$Grid;", true)
  | 1 => ("GridFills$Search", "list", "LGridFills$WordList;", true)
  | 2 => ("GridFills$Search", "found", "LGridFills$Filling;", true)
  | 3 => ("GridFills$Search", "low", "[J", true)
  | 4 => ("GridFills$Search", "high", "[J", true)
  | 5 => ("GridFills$Search", "wordIn", "[I", true)
  | 6 => ("GridFills$Search", "usedLow", "J", false)
  | 7 => ("GridFills$Search", "usedHigh", "J", false)
  | 8 => ("GridFills$Search", "sum", "I", false)
  | 9 => ("GridFills$Search", "mostSteps", "I", false)
  | 10 => ("GridFills$Search", "wantsAll", "Z", false)
  | 11 => ("GridFills$Search", "ranOut", "Z", false)
  | 12 => ("GridFills$Search", "stepsMade", "I", false)
  | _ => ("GridFills$Search", "fillings", "I", false)
def ty_S : Nat → FieldType := fun k => match k with
  | 0 => .object "GridFills$Grid"
  | 1 => .object "GridFills$WordList"
  | 2 => .object "GridFills$Filling"
  | 3 => .array .long
  | 4 => .array .long
  | 5 => .array .int
  | 6 => .long
  | 7 => .long
  | 8 => .int
  | 9 => .int
  | 10 => .boolean
  | 11 => .boolean
  | 12 => .int
  | _ => .int
theorem nm_S : ∀ a, a < 14 → ∀ b, b < 14 → a ≠ b → (ft_S a).2.1 ≠ (ft_S b).2.1 := by decide +kernel
theorem tk_S : ∀ k, k < 14 → parseFieldDescriptor (ft_S k).2.2.1 = some (ty_S k) := by decide +kernel
theorem in_S : ∀ w ∈ u_ws "GridFills$Search" ft_S 14, w ∈ zz_tbl := by decide +kernel
def ft_M : u_T := fun k => match k with
  | 0 => ("GridFillsModel", "thrown", "I", false)
  | 1 => ("GridFillsModel", "width", "I", true)
  | 2 => ("GridFillsModel", "height", "I", true)
  | 3 => ("GridFillsModel", "isBlack", "[Z", true)
  | 4 => ("GridFillsModel", "givens", "[I", true)
  | 5 => ("GridFillsModel", "collected", "I", false)
  | 6 => ("GridFillsModel", "row", "[I", true)
  | 7 => ("GridFillsModel", "words", "I", false)
  | 8 => ("GridFillsModel", "lengths", "[I", true)
  | 9 => ("GridFillsModel", "letters", "[I", true)
  | 10 => ("GridFillsModel", "scores", "[I", true)
  | 11 => ("GridFillsModel", "slots", "I", false)
  | 12 => ("GridFillsModel", "begins", "[I", true)
  | 13 => ("GridFillsModel", "sizes", "[I", true)
  | 14 => ("GridFillsModel", "ways", "[I", true)
  | 15 => ("GridFillsModel", "themes", "[I", true)
  | 16 => ("GridFillsModel", "rightOnes", "I", false)
  | 17 => ("GridFillsModel", "now", "[I", true)
  | 18 => ("GridFillsModel", "found", "[I", true)
  | 19 => ("GridFillsModel", "isFound", "Z", false)
  | 20 => ("GridFillsModel", "steps", "I", false)
  | 21 => ("GridFillsModel", "many", "I", false)
  | 22 => ("GridFillsModel", "cells", "[I", true)
  | 23 => ("GridFillsModel", "slotAt", "[I", true)
  | 24 => ("GridFillsModel", "manyAt", "[I", true)
  | 25 => ("GridFillsModel", "triedAt", "[I", true)
  | 26 => ("GridFillsModel", "choices", "[I", true)
  | _ => ("GridFillsModel", "seen", "[Z", true)
def ty_M : Nat → FieldType := fun k => match k with
  | 0 => .int
  | 1 => .int
  | 2 => .int
  | 3 => .array .boolean
  | 4 => .array .int
  | 5 => .int
  | 6 => .array .int
  | 7 => .int
  | 8 => .array .int
  | 9 => .array .int
  | 10 => .array .int
  | 11 => .int
  | 12 => .array .int
  | 13 => .array .int
  | 14 => .array .int
  | 15 => .array .int
  | 16 => .int
  | 17 => .array .int
  | 18 => .array .int
  | 19 => .boolean
  | 20 => .int
  | 21 => .int
  | 22 => .array .int
  | 23 => .array .int
  | 24 => .array .int
  | 25 => .array .int
  | 26 => .array .int
  | _ => .array .boolean
theorem nm_M : ∀ a, a < 28 → ∀ b, b < 28 → a ≠ b → (ft_M a).2.1 ≠ (ft_M b).2.1 := by decide +kernel
theorem tk_M : ∀ k, k < 28 → parseFieldDescriptor (ft_M k).2.2.1 = some (ty_M k) := by decide +kernel
theorem in_M : ∀ w ∈ u_ws "GridFillsModel" ft_M 28, w ∈ zz_tbl := by decide +kernel
abbrev zz_cl : List vw_C := [("GridFills", ft_X, 4), ("GridFills$Grid", ft_G, 13), ("GridFills$WordList", ft_L, 12), ("GridFills$Filling", ft_F, 4), ("GridFills$Search", ft_S, 14), ("GridFillsModel", ft_M, 28)]
abbrev zz_ty (cI cZ cL : ClassId) : List (ClassId × FieldType) := [(cI, .int), (cZ, .boolean), (cL, .long)]
def gw_C (cI cZ cL : ClassId) (a : Nat → Nat) (u : zz_St) : va_W :=
  [(a 0, .inr (0, [.ref (a 1), .ref (a 2), .ref (a 3), .ref (a 4)])),
   (a 1, .inr (1, [.int (sg_i u 0), .int (sg_i u 1), .int (sg_i u 2), .ref (a 5), .ref (a 6), .int (sg_i u 3), .ref (a 7), .ref (a 8), .ref (a 9), .ref (a 10), .ref (a 11), .ref (a 12), .ref (a 13)])),
   (a 2, .inr (2, [.int (sg_i u 4), .ref (a 14), .ref (a 15), .ref (a 16), .ref (a 17), .ref (a 22), .ref (a 23), .ref (a 24), .ref (a 25), .ref (a 18), .ref (a 19), .int (sg_i u 5)])),
   (a 3, .inr (3, [.ref (a 1), .ref (a 2), .ref (a 20), .int (sg_i u 6)])),
   (a 4, .inr (4, [.ref (a 1), .ref (a 2), .ref (a 3), .ref (a 26), .ref (a 27), .ref (a 21), .long (sg_l u 0), .long (sg_l u 1), .int (sg_i u 7), .int (sg_i u 8), .int (sg_i u 9), .int (sg_i u 10), .int (sg_i u 11), .int (sg_i u 12)])),
   (a 5, .inl (cZ, 36, .inl (sg_a u 0))),
   (a 6, .inl (cI, 36, .inl (sg_a u 1))),
   (a 7, .inl (cI, 24, .inl (sg_a u 2))),
   (a 8, .inl (cI, 24, .inl (sg_a u 3))),
   (a 9, .inl (cI, 24, .inl (sg_a u 4))),
   (a 10, .inl (cI, 24, .inl (sg_a u 5))),
   (a 11, .inl (cI, 72, .inl (sg_a u 6))),
   (a 12, .inl (cI, 72, .inl (sg_a u 7))),
   (a 13, .inl (cI, 36, .inl (sg_a u 8))),
   (a 14, .inl (cI, 80, .inl (sg_a u 9))),
   (a 15, .inl (cI, 80, .inl (sg_a u 10))),
   (a 16, .inl (cI, 80, .inl (sg_a u 11))),
   (a 17, .inl (cI, 80, .inl (sg_a u 12))),
   (a 18, .inl (cI, 480, .inl (sg_a u 13))),
   (a 19, .inl (cI, 6, .inl (sg_a u 14))),
   (a 20, .inl (cI, 24, .inl (sg_a u 15))),
   (a 21, .inl (cI, 24, .inl (sg_a u 16))),
   (a 22, .inl (cL, 7, .inr (.inl (sg_b u 0)))),
   (a 23, .inl (cL, 7, .inr (.inl (sg_b u 1)))),
   (a 24, .inl (cL, 156, .inr (.inl (sg_b u 2)))),
   (a 25, .inl (cL, 156, .inr (.inl (sg_b u 3)))),
   (a 26, .inl (cL, 600, .inr (.inl (sg_b u 4)))),
   (a 27, .inl (cL, 600, .inr (.inl (sg_b u 5))))]
def gw_G (cI cZ cL : ClassId) (a : Nat → Nat) (u : zz_St) : va_W :=
  [(a 0, .inr (1, [.int (sg_i u 0), .int (sg_i u 1), .int (sg_i u 2), .ref (a 1), .ref (a 2), .int (sg_i u 3), .ref (a 3), .ref (a 4), .ref (a 5), .ref (a 6), .ref (a 7), .ref (a 8), .ref (a 9)])),
   (a 1, .inl (cZ, 36, .inl (sg_a u 0))),
   (a 2, .inl (cI, 36, .inl (sg_a u 1))),
   (a 3, .inl (cI, 24, .inl (sg_a u 2))),
   (a 4, .inl (cI, 24, .inl (sg_a u 3))),
   (a 5, .inl (cI, 24, .inl (sg_a u 4))),
   (a 6, .inl (cI, 24, .inl (sg_a u 5))),
   (a 7, .inl (cI, 72, .inl (sg_a u 6))),
   (a 8, .inl (cI, 72, .inl (sg_a u 7))),
   (a 9, .inl (cI, 36, .inl (sg_a u 8)))]
def gw_M (cI cZ cL : ClassId) (a : Nat → Nat) (u : zz_St) : va_W :=
  [(a 0, .inr (5, [.int (sg_i u 0), .int (sg_i u 1), .int (sg_i u 2), .ref (a 1), .ref (a 2), .int (sg_i u 3), .ref (a 3), .int (sg_i u 4), .ref (a 4), .ref (a 5), .ref (a 6), .int (sg_i u 5), .ref (a 7), .ref (a 8), .ref (a 9), .ref (a 10), .int (sg_i u 6), .ref (a 11), .ref (a 12), .int (sg_i u 7), .int (sg_i u 8), .int (sg_i u 9), .ref (a 13), .ref (a 14), .ref (a 15), .ref (a 16), .ref (a 17), .ref (a 18)])),
   (a 1, .inl (cZ, 36, .inl (sg_a u 0))),
   (a 2, .inl (cI, 36, .inl (sg_a u 1))),
   (a 3, .inl (cI, 6, .inl (sg_a u 2))),
   (a 4, .inl (cI, 80, .inl (sg_a u 3))),
   (a 5, .inl (cI, 480, .inl (sg_a u 4))),
   (a 6, .inl (cI, 80, .inl (sg_a u 5))),
   (a 7, .inl (cI, 36, .inl (sg_a u 6))),
   (a 8, .inl (cI, 36, .inl (sg_a u 7))),
   (a 9, .inl (cI, 36, .inl (sg_a u 8))),
   (a 10, .inl (cI, 36, .inl (sg_a u 9))),
   (a 11, .inl (cI, 36, .inl (sg_a u 10))),
   (a 12, .inl (cI, 36, .inl (sg_a u 11))),
   (a 13, .inl (cI, 36, .inl (sg_a u 12))),
   (a 14, .inl (cI, 37, .inl (sg_a u 13))),
   (a 15, .inl (cI, 37, .inl (sg_a u 14))),
   (a 16, .inl (cI, 37, .inl (sg_a u 15))),
   (a 17, .inl (cI, 2960, .inl (sg_a u 16))),
   (a 18, .inl (cZ, 36, .inl (sg_a u 17)))]
def y_JL_bitCount : MethodName := ⟨"java/lang/Long", "bitCount", "(J)I"⟩
abbrev b_JL_bitCount : ByteArray := prog_8_method_50_code
theorem hd_JL_bitCount : y_JL_bitCount.cls ≠ "java/lang/invoke/MethodHandle" ∧ y_JL_bitCount.cls ≠ "java/lang/invoke/VarHandle" ∧ (parseMethodDescriptor y_JL_bitCount.desc).map (fun d => d.parameters.length) = some 1 := by decide +kernel
def y_JA_fillI : MethodName := ⟨"java/util/Arrays", "fill", "([II)V"⟩
abbrev b_JA_fillI : ByteArray := prog_11_method_103_code
theorem hd_JA_fillI : y_JA_fillI.cls ≠ "java/lang/invoke/MethodHandle" ∧ y_JA_fillI.cls ≠ "java/lang/invoke/VarHandle" ∧ (parseMethodDescriptor y_JA_fillI.desc).map (fun d => d.parameters.length) = some 2 := by decide +kernel
def y_JA_fillJ : MethodName := ⟨"java/util/Arrays", "fill", "([JJ)V"⟩
abbrev b_JA_fillJ : ByteArray := prog_11_method_101_code
theorem hd_JA_fillJ : y_JA_fillJ.cls ≠ "java/lang/invoke/MethodHandle" ∧ y_JA_fillJ.cls ≠ "java/lang/invoke/VarHandle" ∧ (parseMethodDescriptor y_JA_fillJ.desc).map (fun d => d.parameters.length) = some 2 := by decide +kernel
def y_G_cellAt : MethodName := ⟨"GridFills$Grid", "cellAt", "(II)I"⟩
abbrev b_G_cellAt : ByteArray := prog_3_method_2_code
theorem hd_G_cellAt : y_G_cellAt.cls ≠ "java/lang/invoke/MethodHandle" ∧ y_G_cellAt.cls ≠ "java/lang/invoke/VarHandle" ∧ (parseMethodDescriptor y_G_cellAt.desc).map (fun d => d.parameters.length) = some 2 := by decide +kernel
def y_G_hasSlot : MethodName := ⟨"GridFills$Grid", "hasSlot", "(I)Z"⟩
abbrev b_G_hasSlot : ByteArray := prog_3_method_3_code
theorem hd_G_hasSlot : y_G_hasSlot.cls ≠ "java/lang/invoke/MethodHandle" ∧ y_G_hasSlot.cls ≠ "java/lang/invoke/VarHandle" ∧ (parseMethodDescriptor y_G_hasSlot.desc).map (fun d => d.parameters.length) = some 1 := by decide +kernel
def y_G_cellOf : MethodName := ⟨"GridFills$Grid", "cellOf", "(II)I"⟩
abbrev b_G_cellOf : ByteArray := prog_3_method_4_code
theorem hd_G_cellOf : y_G_cellOf.cls ≠ "java/lang/invoke/MethodHandle" ∧ y_G_cellOf.cls ≠ "java/lang/invoke/VarHandle" ∧ (parseMethodDescriptor y_G_cellOf.desc).map (fun d => d.parameters.length) = some 2 := by decide +kernel
def y_G_slotAt : MethodName := ⟨"GridFills$Grid", "slotAt", "(II)I"⟩
abbrev b_G_slotAt : ByteArray := prog_3_method_5_code
theorem hd_G_slotAt : y_G_slotAt.cls ≠ "java/lang/invoke/MethodHandle" ∧ y_G_slotAt.cls ≠ "java/lang/invoke/VarHandle" ∧ (parseMethodDescriptor y_G_slotAt.desc).map (fun d => d.parameters.length) = some 2 := by decide +kernel
def y_G_placeAt : MethodName := ⟨"GridFills$Grid", "placeAt", "(II)I"⟩
abbrev b_G_placeAt : ByteArray := prog_3_method_6_code
theorem hd_G_placeAt : y_G_placeAt.cls ≠ "java/lang/invoke/MethodHandle" ∧ y_G_placeAt.cls ≠ "java/lang/invoke/VarHandle" ∧ (parseMethodDescriptor y_G_placeAt.desc).map (fun d => d.parameters.length) = some 2 := by decide +kernel
def y_G_isOpen : MethodName := ⟨"GridFills$Grid", "isOpen", "(II)Z"⟩
abbrev b_G_isOpen : ByteArray := prog_3_method_11_code
theorem hd_G_isOpen : y_G_isOpen.cls ≠ "java/lang/invoke/MethodHandle" ∧ y_G_isOpen.cls ≠ "java/lang/invoke/VarHandle" ∧ (parseMethodDescriptor y_G_isOpen.desc).map (fun d => d.parameters.length) = some 2 := by decide +kernel
def y_G_markCells : MethodName := ⟨"GridFills$Grid", "markCells", "(I)V"⟩
abbrev b_G_markCells : ByteArray := prog_3_method_10_code
theorem hd_G_markCells : y_G_markCells.cls ≠ "java/lang/invoke/MethodHandle" ∧ y_G_markCells.cls ≠ "java/lang/invoke/VarHandle" ∧ (parseMethodDescriptor y_G_markCells.desc).map (fun d => d.parameters.length) = some 1 := by decide +kernel
def y_G_addSlotFrom : MethodName := ⟨"GridFills$Grid", "addSlotFrom", "(III)V"⟩
abbrev b_G_addSlotFrom : ByteArray := prog_3_method_9_code
theorem hd_G_addSlotFrom : y_G_addSlotFrom.cls ≠ "java/lang/invoke/MethodHandle" ∧ y_G_addSlotFrom.cls ≠ "java/lang/invoke/VarHandle" ∧ (parseMethodDescriptor y_G_addSlotFrom.desc).map (fun d => d.parameters.length) = some 3 := by decide +kernel
def y_G_findSlots : MethodName := ⟨"GridFills$Grid", "findSlots", "()V"⟩
abbrev b_G_findSlots : ByteArray := prog_3_method_8_code
theorem hd_G_findSlots : y_G_findSlots.cls ≠ "java/lang/invoke/MethodHandle" ∧ y_G_findSlots.cls ≠ "java/lang/invoke/VarHandle" ∧ (parseMethodDescriptor y_G_findSlots.desc).map (fun d => d.parameters.length) = some 0 := by decide +kernel
def y_G_paint : MethodName := ⟨"GridFills$Grid", "paint", "(IZ)V"⟩
abbrev b_G_paint : ByteArray := prog_3_method_7_code
theorem hd_G_paint : y_G_paint.cls ≠ "java/lang/invoke/MethodHandle" ∧ y_G_paint.cls ≠ "java/lang/invoke/VarHandle" ∧ (parseMethodDescriptor y_G_paint.desc).map (fun d => d.parameters.length) = some 2 := by decide +kernel
def y_G_imageIsOpen : MethodName := ⟨"GridFills$Grid", "imageIsOpen", "(III)Z"⟩
abbrev b_G_imageIsOpen : ByteArray := prog_3_method_13_code
theorem hd_G_imageIsOpen : y_G_imageIsOpen.cls ≠ "java/lang/invoke/MethodHandle" ∧ y_G_imageIsOpen.cls ≠ "java/lang/invoke/VarHandle" ∧ (parseMethodDescriptor y_G_imageIsOpen.desc).map (fun d => d.parameters.length) = some 3 := by decide +kernel
def y_G_looksTheSame : MethodName := ⟨"GridFills$Grid", "looksTheSame", "(I)Z"⟩
abbrev b_G_looksTheSame : ByteArray := prog_3_method_12_code
theorem hd_G_looksTheSame : y_G_looksTheSame.cls ≠ "java/lang/invoke/MethodHandle" ∧ y_G_looksTheSame.cls ≠ "java/lang/invoke/VarHandle" ∧ (parseMethodDescriptor y_G_looksTheSame.desc).map (fun d => d.parameters.length) = some 1 := by decide +kernel
def y_G_join : MethodName := ⟨"GridFills$Grid", "join", "(IIII)Z"⟩
abbrev b_G_join : ByteArray := prog_3_method_15_code
theorem hd_G_join : y_G_join.cls ≠ "java/lang/invoke/MethodHandle" ∧ y_G_join.cls ≠ "java/lang/invoke/VarHandle" ∧ (parseMethodDescriptor y_G_join.desc).map (fun d => d.parameters.length) = some 4 := by decide +kernel
def y_G_countParts : MethodName := ⟨"GridFills$Grid", "countParts", "()I"⟩
abbrev b_G_countParts : ByteArray := prog_3_method_14_code
theorem hd_G_countParts : y_G_countParts.cls ≠ "java/lang/invoke/MethodHandle" ∧ y_G_countParts.cls ≠ "java/lang/invoke/VarHandle" ∧ (parseMethodDescriptor y_G_countParts.desc).map (fun d => d.parameters.length) = some 0 := by decide +kernel
def y_L_lowBit : MethodName := ⟨"GridFills$WordList", "lowBit", "(I)J"⟩
abbrev b_L_lowBit : ByteArray := prog_5_method_2_code
theorem hd_L_lowBit : y_L_lowBit.cls ≠ "java/lang/invoke/MethodHandle" ∧ y_L_lowBit.cls ≠ "java/lang/invoke/VarHandle" ∧ (parseMethodDescriptor y_L_lowBit.desc).map (fun d => d.parameters.length) = some 1 := by decide +kernel
def y_L_highBit : MethodName := ⟨"GridFills$WordList", "highBit", "(I)J"⟩
abbrev b_L_highBit : ByteArray := prog_5_method_3_code
theorem hd_L_highBit : y_L_highBit.cls ≠ "java/lang/invoke/MethodHandle" ∧ y_L_highBit.cls ≠ "java/lang/invoke/VarHandle" ∧ (parseMethodDescriptor y_L_highBit.desc).map (fun d => d.parameters.length) = some 1 := by decide +kernel
def y_L_keyOf : MethodName := ⟨"GridFills$WordList", "keyOf", "(II)I"⟩
abbrev b_L_keyOf : ByteArray := prog_5_method_4_code
theorem hd_L_keyOf : y_L_keyOf.cls ≠ "java/lang/invoke/MethodHandle" ∧ y_L_keyOf.cls ≠ "java/lang/invoke/VarHandle" ∧ (parseMethodDescriptor y_L_keyOf.desc).map (fun d => d.parameters.length) = some 2 := by decide +kernel
def y_L_hasWord : MethodName := ⟨"GridFills$WordList", "hasWord", "(I)Z"⟩
abbrev b_L_hasWord : ByteArray := prog_5_method_5_code
theorem hd_L_hasWord : y_L_hasWord.cls ≠ "java/lang/invoke/MethodHandle" ∧ y_L_hasWord.cls ≠ "java/lang/invoke/VarHandle" ∧ (parseMethodDescriptor y_L_hasWord.desc).map (fun d => d.parameters.length) = some 1 := by decide +kernel
def y_L_letterOf : MethodName := ⟨"GridFills$WordList", "letterOf", "(II)I"⟩
abbrev b_L_letterOf : ByteArray := prog_5_method_6_code
theorem hd_L_letterOf : y_L_letterOf.cls ≠ "java/lang/invoke/MethodHandle" ∧ y_L_letterOf.cls ≠ "java/lang/invoke/VarHandle" ∧ (parseMethodDescriptor y_L_letterOf.desc).map (fun d => d.parameters.length) = some 2 := by decide +kernel
def y_L_collect : MethodName := ⟨"GridFills$WordList", "collect", "(I)Z"⟩
abbrev b_L_collect : ByteArray := prog_5_method_7_code
theorem hd_L_collect : y_L_collect.cls ≠ "java/lang/invoke/MethodHandle" ∧ y_L_collect.cls ≠ "java/lang/invoke/VarHandle" ∧ (parseMethodDescriptor y_L_collect.desc).map (fun d => d.parameters.length) = some 1 := by decide +kernel
def y_L_dropCollected : MethodName := ⟨"GridFills$WordList", "dropCollected", "()V"⟩
abbrev b_L_dropCollected : ByteArray := prog_5_method_8_code
theorem hd_L_dropCollected : y_L_dropCollected.cls ≠ "java/lang/invoke/MethodHandle" ∧ y_L_dropCollected.cls ≠ "java/lang/invoke/VarHandle" ∧ (parseMethodDescriptor y_L_dropCollected.desc).map (fun d => d.parameters.length) = some 0 := by decide +kernel
def y_L_isCollected : MethodName := ⟨"GridFills$WordList", "isCollected", "(I)Z"⟩
abbrev b_L_isCollected : ByteArray := prog_5_method_11_code
theorem hd_L_isCollected : y_L_isCollected.cls ≠ "java/lang/invoke/MethodHandle" ∧ y_L_isCollected.cls ≠ "java/lang/invoke/VarHandle" ∧ (parseMethodDescriptor y_L_isCollected.desc).map (fun d => d.parameters.length) = some 1 := by decide +kernel
def y_L_isThere : MethodName := ⟨"GridFills$WordList", "isThere", "()Z"⟩
abbrev b_L_isThere : ByteArray := prog_5_method_10_code
theorem hd_L_isThere : y_L_isThere.cls ≠ "java/lang/invoke/MethodHandle" ∧ y_L_isThere.cls ≠ "java/lang/invoke/VarHandle" ∧ (parseMethodDescriptor y_L_isThere.desc).map (fun d => d.parameters.length) = some 0 := by decide +kernel
def y_L_rank : MethodName := ⟨"GridFills$WordList", "rank", "(I)V"⟩
abbrev b_L_rank : ByteArray := prog_5_method_12_code
theorem hd_L_rank : y_L_rank.cls ≠ "java/lang/invoke/MethodHandle" ∧ y_L_rank.cls ≠ "java/lang/invoke/VarHandle" ∧ (parseMethodDescriptor y_L_rank.desc).map (fun d => d.parameters.length) = some 1 := by decide +kernel
def y_L_sortIntoSets : MethodName := ⟨"GridFills$WordList", "sortIntoSets", "()V"⟩
abbrev b_L_sortIntoSets : ByteArray := prog_5_method_13_code
theorem hd_L_sortIntoSets : y_L_sortIntoSets.cls ≠ "java/lang/invoke/MethodHandle" ∧ y_L_sortIntoSets.cls ≠ "java/lang/invoke/VarHandle" ∧ (parseMethodDescriptor y_L_sortIntoSets.desc).map (fun d => d.parameters.length) = some 0 := by decide +kernel
def y_L_wordFromCollected : MethodName := ⟨"GridFills$WordList", "wordFromCollected", "(I)I"⟩
abbrev b_L_wordFromCollected : ByteArray := prog_5_method_9_code
theorem hd_L_wordFromCollected : y_L_wordFromCollected.cls ≠ "java/lang/invoke/MethodHandle" ∧ y_L_wordFromCollected.cls ≠ "java/lang/invoke/VarHandle" ∧ (parseMethodDescriptor y_L_wordFromCollected.desc).map (fun d => d.parameters.length) = some 1 := by decide +kernel
def y_F_forget : MethodName := ⟨"GridFills$Filling", "forget", "()V"⟩
abbrev b_F_forget : ByteArray := prog_2_method_2_code
theorem hd_F_forget : y_F_forget.cls ≠ "java/lang/invoke/MethodHandle" ∧ y_F_forget.cls ≠ "java/lang/invoke/VarHandle" ∧ (parseMethodDescriptor y_F_forget.desc).map (fun d => d.parameters.length) = some 0 := by decide +kernel
def y_F_keep : MethodName := ⟨"GridFills$Filling", "keep", "([II)V"⟩
abbrev b_F_keep : ByteArray := prog_2_method_3_code
theorem hd_F_keep : y_F_keep.cls ≠ "java/lang/invoke/MethodHandle" ∧ y_F_keep.cls ≠ "java/lang/invoke/VarHandle" ∧ (parseMethodDescriptor y_F_keep.desc).map (fun d => d.parameters.length) = some 2 := by decide +kernel
def y_F_wordOf : MethodName := ⟨"GridFills$Filling", "wordOf", "(I)I"⟩
abbrev b_F_wordOf : ByteArray := prog_2_method_4_code
theorem hd_F_wordOf : y_F_wordOf.cls ≠ "java/lang/invoke/MethodHandle" ∧ y_F_wordOf.cls ≠ "java/lang/invoke/VarHandle" ∧ (parseMethodDescriptor y_F_wordOf.desc).map (fun d => d.parameters.length) = some 1 := by decide +kernel
def y_F_letterBy : MethodName := ⟨"GridFills$Filling", "letterBy", "(II)I"⟩
abbrev b_F_letterBy : ByteArray := prog_2_method_6_code
theorem hd_F_letterBy : y_F_letterBy.cls ≠ "java/lang/invoke/MethodHandle" ∧ y_F_letterBy.cls ≠ "java/lang/invoke/VarHandle" ∧ (parseMethodDescriptor y_F_letterBy.desc).map (fun d => d.parameters.length) = some 2 := by decide +kernel
def y_F_letterAt : MethodName := ⟨"GridFills$Filling", "letterAt", "(I)I"⟩
abbrev b_F_letterAt : ByteArray := prog_2_method_5_code
theorem hd_F_letterAt : y_F_letterAt.cls ≠ "java/lang/invoke/MethodHandle" ∧ y_F_letterAt.cls ≠ "java/lang/invoke/VarHandle" ∧ (parseMethodDescriptor y_F_letterAt.desc).map (fun d => d.parameters.length) = some 1 := by decide +kernel
def y_F_agrees : MethodName := ⟨"GridFills$Filling", "agrees", "(II)Z"⟩
abbrev b_F_agrees : ByteArray := prog_2_method_9_code
theorem hd_F_agrees : y_F_agrees.cls ≠ "java/lang/invoke/MethodHandle" ∧ y_F_agrees.cls ≠ "java/lang/invoke/VarHandle" ∧ (parseMethodDescriptor y_F_agrees.desc).map (fun d => d.parameters.length) = some 2 := by decide +kernel
def y_F_holds : MethodName := ⟨"GridFills$Filling", "holds", "(I)Z"⟩
abbrev b_F_holds : ByteArray := prog_2_method_8_code
theorem hd_F_holds : y_F_holds.cls ≠ "java/lang/invoke/MethodHandle" ∧ y_F_holds.cls ≠ "java/lang/invoke/VarHandle" ∧ (parseMethodDescriptor y_F_holds.desc).map (fun d => d.parameters.length) = some 1 := by decide +kernel
def y_F_firstFault : MethodName := ⟨"GridFills$Filling", "firstFault", "()I"⟩
abbrev b_F_firstFault : ByteArray := prog_2_method_7_code
theorem hd_F_firstFault : y_F_firstFault.cls ≠ "java/lang/invoke/MethodHandle" ∧ y_F_firstFault.cls ≠ "java/lang/invoke/VarHandle" ∧ (parseMethodDescriptor y_F_firstFault.desc).map (fun d => d.parameters.length) = some 0 := by decide +kernel
def y_S_narrow : MethodName := ⟨"GridFills$Search", "narrow", "(II)V"⟩
abbrev b_S_narrow : ByteArray := prog_4_method_6_code
theorem hd_S_narrow : y_S_narrow.cls ≠ "java/lang/invoke/MethodHandle" ∧ y_S_narrow.cls ≠ "java/lang/invoke/VarHandle" ∧ (parseMethodDescriptor y_S_narrow.desc).map (fun d => d.parameters.length) = some 2 := by decide +kernel
def y_S_openSlot : MethodName := ⟨"GridFills$Search", "openSlot", "(I)V"⟩
abbrev b_S_openSlot : ByteArray := prog_4_method_5_code
theorem hd_S_openSlot : y_S_openSlot.cls ≠ "java/lang/invoke/MethodHandle" ∧ y_S_openSlot.cls ≠ "java/lang/invoke/VarHandle" ∧ (parseMethodDescriptor y_S_openSlot.desc).map (fun d => d.parameters.length) = some 1 := by decide +kernel
def y_S_countAtStart : MethodName := ⟨"GridFills$Search", "countAtStart", "(I)I"⟩
abbrev b_S_countAtStart : ByteArray := prog_4_method_3_code
theorem hd_S_countAtStart : y_S_countAtStart.cls ≠ "java/lang/invoke/MethodHandle" ∧ y_S_countAtStart.cls ≠ "java/lang/invoke/VarHandle" ∧ (parseMethodDescriptor y_S_countAtStart.desc).map (fun d => d.parameters.length) = some 1 := by decide +kernel
def y_S_clearSlots : MethodName := ⟨"GridFills$Search", "clearSlots", "()V"⟩
abbrev b_S_clearSlots : ByteArray := prog_4_method_4_code
theorem hd_S_clearSlots : y_S_clearSlots.cls ≠ "java/lang/invoke/MethodHandle" ∧ y_S_clearSlots.cls ≠ "java/lang/invoke/VarHandle" ∧ (parseMethodDescriptor y_S_clearSlots.desc).map (fun d => d.parameters.length) = some 0 := by decide +kernel
def y_S_lowestBit : MethodName := ⟨"GridFills$Search", "lowestBit", "(J)I"⟩
abbrev b_S_lowestBit : ByteArray := prog_4_method_8_code
theorem hd_S_lowestBit : y_S_lowestBit.cls ≠ "java/lang/invoke/MethodHandle" ∧ y_S_lowestBit.cls ≠ "java/lang/invoke/VarHandle" ∧ (parseMethodDescriptor y_S_lowestBit.desc).map (fun d => d.parameters.length) = some 1 := by decide +kernel
def y_S_takeFilling : MethodName := ⟨"GridFills$Search", "takeFilling", "()Z"⟩
abbrev b_S_takeFilling : ByteArray := prog_4_method_9_code
theorem hd_S_takeFilling : y_S_takeFilling.cls ≠ "java/lang/invoke/MethodHandle" ∧ y_S_takeFilling.cls ≠ "java/lang/invoke/VarHandle" ∧ (parseMethodDescriptor y_S_takeFilling.desc).map (fun d => d.parameters.length) = some 0 := by decide +kernel
def y_S_slotWithFewest : MethodName := ⟨"GridFills$Search", "slotWithFewest", "(I)I"⟩
abbrev b_S_slotWithFewest : ByteArray := prog_4_method_10_code
theorem hd_S_slotWithFewest : y_S_slotWithFewest.cls ≠ "java/lang/invoke/MethodHandle" ∧ y_S_slotWithFewest.cls ≠ "java/lang/invoke/VarHandle" ∧ (parseMethodDescriptor y_S_slotWithFewest.desc).map (fun d => d.parameters.length) = some 1 := by decide +kernel
def y_S_narrowCrossing : MethodName := ⟨"GridFills$Search", "narrowCrossing", "(III)V"⟩
abbrev b_S_narrowCrossing : ByteArray := prog_4_method_12_code
theorem hd_S_narrowCrossing : y_S_narrowCrossing.cls ≠ "java/lang/invoke/MethodHandle" ∧ y_S_narrowCrossing.cls ≠ "java/lang/invoke/VarHandle" ∧ (parseMethodDescriptor y_S_narrowCrossing.desc).map (fun d => d.parameters.length) = some 3 := by decide +kernel
def y_X_black : MethodName := ⟨"GridFills", "black", "(IIZ)Z"⟩
abbrev b_X_black : ByteArray := prog_1_method_2_code
theorem hd_X_black : y_X_black.cls ≠ "java/lang/invoke/MethodHandle" ∧ y_X_black.cls ≠ "java/lang/invoke/VarHandle" ∧ (parseMethodDescriptor y_X_black.desc).map (fun d => d.parameters.length) = some 3 := by decide +kernel
def y_X_isLetter : MethodName := ⟨"GridFills", "isLetter", "(I)Z"⟩
abbrev b_X_isLetter : ByteArray := prog_1_method_19_code
theorem hd_X_isLetter : y_X_isLetter.cls ≠ "java/lang/invoke/MethodHandle" ∧ y_X_isLetter.cls ≠ "java/lang/invoke/VarHandle" ∧ (parseMethodDescriptor y_X_isLetter.desc).map (fun d => d.parameters.length) = some 1 := by decide +kernel
def y_X_unit : MethodName := ⟨"GridFills", "unit", "(I)Z"⟩
abbrev b_X_unit : ByteArray := prog_1_method_3_code
theorem hd_X_unit : y_X_unit.cls ≠ "java/lang/invoke/MethodHandle" ∧ y_X_unit.cls ≠ "java/lang/invoke/VarHandle" ∧ (parseMethodDescriptor y_X_unit.desc).map (fun d => d.parameters.length) = some 1 := by decide +kernel
def y_X_word : MethodName := ⟨"GridFills", "word", "(I)I"⟩
abbrev b_X_word : ByteArray := prog_1_method_4_code
theorem hd_X_word : y_X_word.cls ≠ "java/lang/invoke/MethodHandle" ∧ y_X_word.cls ≠ "java/lang/invoke/VarHandle" ∧ (parseMethodDescriptor y_X_word.desc).map (fun d => d.parameters.length) = some 1 := by decide +kernel
def y_X_given : MethodName := ⟨"GridFills", "given", "(III)Z"⟩
abbrev b_X_given : ByteArray := prog_1_method_5_code
theorem hd_X_given : y_X_given.cls ≠ "java/lang/invoke/MethodHandle" ∧ y_X_given.cls ≠ "java/lang/invoke/VarHandle" ∧ (parseMethodDescriptor y_X_given.desc).map (fun d => d.parameters.length) = some 3 := by decide +kernel
def y_X_theme : MethodName := ⟨"GridFills", "theme", "(II)Z"⟩
abbrev b_X_theme : ByteArray := prog_1_method_6_code
theorem hd_X_theme : y_X_theme.cls ≠ "java/lang/invoke/MethodHandle" ∧ y_X_theme.cls ≠ "java/lang/invoke/VarHandle" ∧ (parseMethodDescriptor y_X_theme.desc).map (fun d => d.parameters.length) = some 2 := by decide +kernel
def y_X_slots : MethodName := ⟨"GridFills", "slots", "()I"⟩
abbrev b_X_slots : ByteArray := prog_1_method_7_code
theorem hd_X_slots : y_X_slots.cls ≠ "java/lang/invoke/MethodHandle" ∧ y_X_slots.cls ≠ "java/lang/invoke/VarHandle" ∧ (parseMethodDescriptor y_X_slots.desc).map (fun d => d.parameters.length) = some 0 := by decide +kernel
def y_X_slot : MethodName := ⟨"GridFills", "slot", "(II)I"⟩
abbrev b_X_slot : ByteArray := prog_1_method_8_code
theorem hd_X_slot : y_X_slot.cls ≠ "java/lang/invoke/MethodHandle" ∧ y_X_slot.cls ≠ "java/lang/invoke/VarHandle" ∧ (parseMethodDescriptor y_X_slot.desc).map (fun d => d.parameters.length) = some 2 := by decide +kernel
def y_X_steps : MethodName := ⟨"GridFills", "steps", "()I"⟩
abbrev b_X_steps : ByteArray := prog_1_method_11_code
theorem hd_X_steps : y_X_steps.cls ≠ "java/lang/invoke/MethodHandle" ∧ y_X_steps.cls ≠ "java/lang/invoke/VarHandle" ∧ (parseMethodDescriptor y_X_steps.desc).map (fun d => d.parameters.length) = some 0 := by decide +kernel
def y_X_many : MethodName := ⟨"GridFills", "many", "()I"⟩
abbrev b_X_many : ByteArray := prog_1_method_12_code
theorem hd_X_many : y_X_many.cls ≠ "java/lang/invoke/MethodHandle" ∧ y_X_many.cls ≠ "java/lang/invoke/VarHandle" ∧ (parseMethodDescriptor y_X_many.desc).map (fun d => d.parameters.length) = some 0 := by decide +kernel
def y_X_score : MethodName := ⟨"GridFills", "score", "()I"⟩
abbrev b_X_score : ByteArray := prog_1_method_13_code
theorem hd_X_score : y_X_score.cls ≠ "java/lang/invoke/MethodHandle" ∧ y_X_score.cls ≠ "java/lang/invoke/VarHandle" ∧ (parseMethodDescriptor y_X_score.desc).map (fun d => d.parameters.length) = some 0 := by decide +kernel
def y_X_letter : MethodName := ⟨"GridFills", "letter", "(II)I"⟩
abbrev b_X_letter : ByteArray := prog_1_method_14_code
theorem hd_X_letter : y_X_letter.cls ≠ "java/lang/invoke/MethodHandle" ∧ y_X_letter.cls ≠ "java/lang/invoke/VarHandle" ∧ (parseMethodDescriptor y_X_letter.desc).map (fun d => d.parameters.length) = some 2 := by decide +kernel
def y_X_check : MethodName := ⟨"GridFills", "check", "()I"⟩
abbrev b_X_check : ByteArray := prog_1_method_15_code
theorem hd_X_check : y_X_check.cls ≠ "java/lang/invoke/MethodHandle" ∧ y_X_check.cls ≠ "java/lang/invoke/VarHandle" ∧ (parseMethodDescriptor y_X_check.desc).map (fun d => d.parameters.length) = some 0 := by decide +kernel
def y_X_alike : MethodName := ⟨"GridFills", "alike", "(I)Z"⟩
abbrev b_X_alike : ByteArray := prog_1_method_16_code
theorem hd_X_alike : y_X_alike.cls ≠ "java/lang/invoke/MethodHandle" ∧ y_X_alike.cls ≠ "java/lang/invoke/VarHandle" ∧ (parseMethodDescriptor y_X_alike.desc).map (fun d => d.parameters.length) = some 1 := by decide +kernel
def y_X_parts : MethodName := ⟨"GridFills", "parts", "()I"⟩
abbrev b_X_parts : ByteArray := prog_1_method_17_code
theorem hd_X_parts : y_X_parts.cls ≠ "java/lang/invoke/MethodHandle" ∧ y_X_parts.cls ≠ "java/lang/invoke/VarHandle" ∧ (parseMethodDescriptor y_X_parts.desc).map (fun d => d.parameters.length) = some 0 := by decide +kernel
def y_X_isStepLimit : MethodName := ⟨"GridFills", "isStepLimit", "(I)Z"⟩
abbrev b_X_isStepLimit : ByteArray := prog_1_method_20_code
theorem hd_X_isStepLimit : y_X_isStepLimit.cls ≠ "java/lang/invoke/MethodHandle" ∧ y_X_isStepLimit.cls ≠ "java/lang/invoke/VarHandle" ∧ (parseMethodDescriptor y_X_isStepLimit.desc).map (fun d => d.parameters.length) = some 1 := by decide +kernel
def y_S_fillFrom : MethodName := ⟨"GridFills$Search", "fillFrom", "(I)Z"⟩
abbrev b_S_fillFrom : ByteArray := prog_4_method_7_code
theorem hd_S_fillFrom : y_S_fillFrom.cls ≠ "java/lang/invoke/MethodHandle" ∧ y_S_fillFrom.cls ≠ "java/lang/invoke/VarHandle" ∧ (parseMethodDescriptor y_S_fillFrom.desc).map (fun d => d.parameters.length) = some 1 := by decide +kernel
def y_S_tryWord : MethodName := ⟨"GridFills$Search", "tryWord", "(III)Z"⟩
abbrev b_S_tryWord : ByteArray := prog_4_method_11_code
theorem hd_S_tryWord : y_S_tryWord.cls ≠ "java/lang/invoke/MethodHandle" ∧ y_S_tryWord.cls ≠ "java/lang/invoke/VarHandle" ∧ (parseMethodDescriptor y_S_tryWord.desc).map (fun d => d.parameters.length) = some 3 := by decide +kernel
def y_S_seek : MethodName := ⟨"GridFills$Search", "seek", "(IZ)I"⟩
abbrev b_S_seek : ByteArray := prog_4_method_2_code
theorem hd_S_seek : y_S_seek.cls ≠ "java/lang/invoke/MethodHandle" ∧ y_S_seek.cls ≠ "java/lang/invoke/VarHandle" ∧ (parseMethodDescriptor y_S_seek.desc).map (fun d => d.parameters.length) = some 2 := by decide +kernel
def y_X_run : MethodName := ⟨"GridFills", "run", "(I)I"⟩
abbrev b_X_run : ByteArray := prog_1_method_9_code
theorem hd_X_run : y_X_run.cls ≠ "java/lang/invoke/MethodHandle" ∧ y_X_run.cls ≠ "java/lang/invoke/VarHandle" ∧ (parseMethodDescriptor y_X_run.desc).map (fun d => d.parameters.length) = some 1 := by decide +kernel
def y_X_best : MethodName := ⟨"GridFills", "best", "(I)I"⟩
abbrev b_X_best : ByteArray := prog_1_method_10_code
theorem hd_X_best : y_X_best.cls ≠ "java/lang/invoke/MethodHandle" ∧ y_X_best.cls ≠ "java/lang/invoke/VarHandle" ∧ (parseMethodDescriptor y_X_best.desc).map (fun d => d.parameters.length) = some 1 := by decide +kernel
def y_M_isCell : MethodName := ⟨"GridFillsModel", "isCell", "(II)Z"⟩
abbrev b_M_isCell : ByteArray := prog_7_method_3_code
theorem hd_M_isCell : y_M_isCell.cls ≠ "java/lang/invoke/MethodHandle" ∧ y_M_isCell.cls ≠ "java/lang/invoke/VarHandle" ∧ (parseMethodDescriptor y_M_isCell.desc).map (fun d => d.parameters.length) = some 2 := by decide +kernel
def y_M_isOpen : MethodName := ⟨"GridFillsModel", "isOpen", "(II)Z"⟩
abbrev b_M_isOpen : ByteArray := prog_7_method_4_code
theorem hd_M_isOpen : y_M_isOpen.cls ≠ "java/lang/invoke/MethodHandle" ∧ y_M_isOpen.cls ≠ "java/lang/invoke/VarHandle" ∧ (parseMethodDescriptor y_M_isOpen.desc).map (fun d => d.parameters.length) = some 2 := by decide +kernel
def y_M_findSlots : MethodName := ⟨"GridFillsModel", "findSlots", "()V"⟩
abbrev b_M_findSlots : ByteArray := prog_7_method_5_code
theorem hd_M_findSlots : y_M_findSlots.cls ≠ "java/lang/invoke/MethodHandle" ∧ y_M_findSlots.cls ≠ "java/lang/invoke/VarHandle" ∧ (parseMethodDescriptor y_M_findSlots.desc).map (fun d => d.parameters.length) = some 0 := by decide +kernel
def y_M_black : MethodName := ⟨"GridFillsModel", "black", "(IIZ)Z"⟩
abbrev b_M_black : ByteArray := prog_7_method_6_code
theorem hd_M_black : y_M_black.cls ≠ "java/lang/invoke/MethodHandle" ∧ y_M_black.cls ≠ "java/lang/invoke/VarHandle" ∧ (parseMethodDescriptor y_M_black.desc).map (fun d => d.parameters.length) = some 3 := by decide +kernel
def y_M_isSlot : MethodName := ⟨"GridFillsModel", "isSlot", "(I)Z"⟩
abbrev b_M_isSlot : ByteArray := prog_7_method_7_code
theorem hd_M_isSlot : y_M_isSlot.cls ≠ "java/lang/invoke/MethodHandle" ∧ y_M_isSlot.cls ≠ "java/lang/invoke/VarHandle" ∧ (parseMethodDescriptor y_M_isSlot.desc).map (fun d => d.parameters.length) = some 1 := by decide +kernel
def y_M_cellOf : MethodName := ⟨"GridFillsModel", "cellOf", "(II)I"⟩
abbrev b_M_cellOf : ByteArray := prog_7_method_8_code
theorem hd_M_cellOf : y_M_cellOf.cls ≠ "java/lang/invoke/MethodHandle" ∧ y_M_cellOf.cls ≠ "java/lang/invoke/VarHandle" ∧ (parseMethodDescriptor y_M_cellOf.desc).map (fun d => d.parameters.length) = some 2 := by decide +kernel
def y_M_isLetter : MethodName := ⟨"GridFillsModel", "isLetter", "(I)Z"⟩
abbrev b_M_isLetter : ByteArray := prog_7_method_9_code
theorem hd_M_isLetter : y_M_isLetter.cls ≠ "java/lang/invoke/MethodHandle" ∧ y_M_isLetter.cls ≠ "java/lang/invoke/VarHandle" ∧ (parseMethodDescriptor y_M_isLetter.desc).map (fun d => d.parameters.length) = some 1 := by decide +kernel
def y_M_unit : MethodName := ⟨"GridFillsModel", "unit", "(I)Z"⟩
abbrev b_M_unit : ByteArray := prog_7_method_10_code
theorem hd_M_unit : y_M_unit.cls ≠ "java/lang/invoke/MethodHandle" ∧ y_M_unit.cls ≠ "java/lang/invoke/VarHandle" ∧ (parseMethodDescriptor y_M_unit.desc).map (fun d => d.parameters.length) = some 1 := by decide +kernel
def y_M_isRow : MethodName := ⟨"GridFillsModel", "isRow", "(I)Z"⟩
abbrev b_M_isRow : ByteArray := prog_7_method_11_code
theorem hd_M_isRow : y_M_isRow.cls ≠ "java/lang/invoke/MethodHandle" ∧ y_M_isRow.cls ≠ "java/lang/invoke/VarHandle" ∧ (parseMethodDescriptor y_M_isRow.desc).map (fun d => d.parameters.length) = some 1 := by decide +kernel
def y_M_enter : MethodName := ⟨"GridFillsModel", "enter", "(I)I"⟩
abbrev b_M_enter : ByteArray := prog_7_method_12_code
theorem hd_M_enter : y_M_enter.cls ≠ "java/lang/invoke/MethodHandle" ∧ y_M_enter.cls ≠ "java/lang/invoke/VarHandle" ∧ (parseMethodDescriptor y_M_enter.desc).map (fun d => d.parameters.length) = some 1 := by decide +kernel
def y_M_word : MethodName := ⟨"GridFillsModel", "word", "(I)I"⟩
abbrev b_M_word : ByteArray := prog_7_method_13_code
theorem hd_M_word : y_M_word.cls ≠ "java/lang/invoke/MethodHandle" ∧ y_M_word.cls ≠ "java/lang/invoke/VarHandle" ∧ (parseMethodDescriptor y_M_word.desc).map (fun d => d.parameters.length) = some 1 := by decide +kernel
def y_M_given : MethodName := ⟨"GridFillsModel", "given", "(III)Z"⟩
abbrev b_M_given : ByteArray := prog_7_method_14_code
theorem hd_M_given : y_M_given.cls ≠ "java/lang/invoke/MethodHandle" ∧ y_M_given.cls ≠ "java/lang/invoke/VarHandle" ∧ (parseMethodDescriptor y_M_given.desc).map (fun d => d.parameters.length) = some 3 := by decide +kernel
def y_M_theme : MethodName := ⟨"GridFillsModel", "theme", "(II)Z"⟩
abbrev b_M_theme : ByteArray := prog_7_method_15_code
theorem hd_M_theme : y_M_theme.cls ≠ "java/lang/invoke/MethodHandle" ∧ y_M_theme.cls ≠ "java/lang/invoke/VarHandle" ∧ (parseMethodDescriptor y_M_theme.desc).map (fun d => d.parameters.length) = some 2 := by decide +kernel
def y_M_slots : MethodName := ⟨"GridFillsModel", "slots", "()I"⟩
abbrev b_M_slots : ByteArray := prog_7_method_16_code
theorem hd_M_slots : y_M_slots.cls ≠ "java/lang/invoke/MethodHandle" ∧ y_M_slots.cls ≠ "java/lang/invoke/VarHandle" ∧ (parseMethodDescriptor y_M_slots.desc).map (fun d => d.parameters.length) = some 0 := by decide +kernel
def y_M_spell : MethodName := ⟨"GridFillsModel", "spell", "()V"⟩
abbrev b_M_spell : ByteArray := prog_7_method_17_code
theorem hd_M_spell : y_M_spell.cls ≠ "java/lang/invoke/MethodHandle" ∧ y_M_spell.cls ≠ "java/lang/invoke/VarHandle" ∧ (parseMethodDescriptor y_M_spell.desc).map (fun d => d.parameters.length) = some 0 := by decide +kernel
def y_M_isUsed : MethodName := ⟨"GridFillsModel", "isUsed", "(I)Z"⟩
abbrev b_M_isUsed : ByteArray := prog_7_method_18_code
theorem hd_M_isUsed : y_M_isUsed.cls ≠ "java/lang/invoke/MethodHandle" ∧ y_M_isUsed.cls ≠ "java/lang/invoke/VarHandle" ∧ (parseMethodDescriptor y_M_isUsed.desc).map (fun d => d.parameters.length) = some 1 := by decide +kernel
def y_M_mayHave : MethodName := ⟨"GridFillsModel", "mayHave", "(II)Z"⟩
abbrev b_M_mayHave : ByteArray := prog_7_method_19_code
theorem hd_M_mayHave : y_M_mayHave.cls ≠ "java/lang/invoke/MethodHandle" ∧ y_M_mayHave.cls ≠ "java/lang/invoke/VarHandle" ∧ (parseMethodDescriptor y_M_mayHave.desc).map (fun d => d.parameters.length) = some 2 := by decide +kernel
def y_M_countFor : MethodName := ⟨"GridFillsModel", "countFor", "(I)I"⟩
abbrev b_M_countFor : ByteArray := prog_7_method_20_code
theorem hd_M_countFor : y_M_countFor.cls ≠ "java/lang/invoke/MethodHandle" ∧ y_M_countFor.cls ≠ "java/lang/invoke/VarHandle" ∧ (parseMethodDescriptor y_M_countFor.desc).map (fun d => d.parameters.length) = some 1 := by decide +kernel
def y_M_clearNow : MethodName := ⟨"GridFillsModel", "clearNow", "()V"⟩
abbrev b_M_clearNow : ByteArray := prog_7_method_21_code
theorem hd_M_clearNow : y_M_clearNow.cls ≠ "java/lang/invoke/MethodHandle" ∧ y_M_clearNow.cls ≠ "java/lang/invoke/VarHandle" ∧ (parseMethodDescriptor y_M_clearNow.desc).map (fun d => d.parameters.length) = some 0 := by decide +kernel
def y_M_slot : MethodName := ⟨"GridFillsModel", "slot", "(II)I"⟩
abbrev b_M_slot : ByteArray := prog_7_method_22_code
theorem hd_M_slot : y_M_slot.cls ≠ "java/lang/invoke/MethodHandle" ∧ y_M_slot.cls ≠ "java/lang/invoke/VarHandle" ∧ (parseMethodDescriptor y_M_slot.desc).map (fun d => d.parameters.length) = some 2 := by decide +kernel
def y_M_isBefore : MethodName := ⟨"GridFillsModel", "isBefore", "(II)Z"⟩
abbrev b_M_isBefore : ByteArray := prog_7_method_23_code
theorem hd_M_isBefore : y_M_isBefore.cls ≠ "java/lang/invoke/MethodHandle" ∧ y_M_isBefore.cls ≠ "java/lang/invoke/VarHandle" ∧ (parseMethodDescriptor y_M_isBefore.desc).map (fun d => d.parameters.length) = some 2 := by decide +kernel
def y_M_open : MethodName := ⟨"GridFillsModel", "open", "(I)Z"⟩
abbrev b_M_open : ByteArray := prog_7_method_24_code
theorem hd_M_open : y_M_open.cls ≠ "java/lang/invoke/MethodHandle" ∧ y_M_open.cls ≠ "java/lang/invoke/VarHandle" ∧ (parseMethodDescriptor y_M_open.desc).map (fun d => d.parameters.length) = some 1 := by decide +kernel
def y_M_sumNow : MethodName := ⟨"GridFillsModel", "sumNow", "()I"⟩
abbrev b_M_sumNow : ByteArray := prog_7_method_25_code
theorem hd_M_sumNow : y_M_sumNow.cls ≠ "java/lang/invoke/MethodHandle" ∧ y_M_sumNow.cls ≠ "java/lang/invoke/VarHandle" ∧ (parseMethodDescriptor y_M_sumNow.desc).map (fun d => d.parameters.length) = some 0 := by decide +kernel
def y_M_search : MethodName := ⟨"GridFillsModel", "search", "(IZ)I"⟩
abbrev b_M_search : ByteArray := prog_7_method_26_code
theorem hd_M_search : y_M_search.cls ≠ "java/lang/invoke/MethodHandle" ∧ y_M_search.cls ≠ "java/lang/invoke/VarHandle" ∧ (parseMethodDescriptor y_M_search.desc).map (fun d => d.parameters.length) = some 2 := by decide +kernel
def y_M_run : MethodName := ⟨"GridFillsModel", "run", "(I)I"⟩
abbrev b_M_run : ByteArray := prog_7_method_27_code
theorem hd_M_run : y_M_run.cls ≠ "java/lang/invoke/MethodHandle" ∧ y_M_run.cls ≠ "java/lang/invoke/VarHandle" ∧ (parseMethodDescriptor y_M_run.desc).map (fun d => d.parameters.length) = some 1 := by decide +kernel
def y_M_best : MethodName := ⟨"GridFillsModel", "best", "(I)I"⟩
abbrev b_M_best : ByteArray := prog_7_method_28_code
theorem hd_M_best : y_M_best.cls ≠ "java/lang/invoke/MethodHandle" ∧ y_M_best.cls ≠ "java/lang/invoke/VarHandle" ∧ (parseMethodDescriptor y_M_best.desc).map (fun d => d.parameters.length) = some 1 := by decide +kernel
def y_M_steps : MethodName := ⟨"GridFillsModel", "steps", "()I"⟩
abbrev b_M_steps : ByteArray := prog_7_method_29_code
theorem hd_M_steps : y_M_steps.cls ≠ "java/lang/invoke/MethodHandle" ∧ y_M_steps.cls ≠ "java/lang/invoke/VarHandle" ∧ (parseMethodDescriptor y_M_steps.desc).map (fun d => d.parameters.length) = some 0 := by decide +kernel
def y_M_many : MethodName := ⟨"GridFillsModel", "many", "()I"⟩
abbrev b_M_many : ByteArray := prog_7_method_30_code
theorem hd_M_many : y_M_many.cls ≠ "java/lang/invoke/MethodHandle" ∧ y_M_many.cls ≠ "java/lang/invoke/VarHandle" ∧ (parseMethodDescriptor y_M_many.desc).map (fun d => d.parameters.length) = some 0 := by decide +kernel
def y_M_score : MethodName := ⟨"GridFillsModel", "score", "()I"⟩
abbrev b_M_score : ByteArray := prog_7_method_31_code
theorem hd_M_score : y_M_score.cls ≠ "java/lang/invoke/MethodHandle" ∧ y_M_score.cls ≠ "java/lang/invoke/VarHandle" ∧ (parseMethodDescriptor y_M_score.desc).map (fun d => d.parameters.length) = some 0 := by decide +kernel
def y_M_letter : MethodName := ⟨"GridFillsModel", "letter", "(II)I"⟩
abbrev b_M_letter : ByteArray := prog_7_method_32_code
theorem hd_M_letter : y_M_letter.cls ≠ "java/lang/invoke/MethodHandle" ∧ y_M_letter.cls ≠ "java/lang/invoke/VarHandle" ∧ (parseMethodDescriptor y_M_letter.desc).map (fun d => d.parameters.length) = some 2 := by decide +kernel
def y_M_check : MethodName := ⟨"GridFillsModel", "check", "()I"⟩
abbrev b_M_check : ByteArray := prog_7_method_33_code
theorem hd_M_check : y_M_check.cls ≠ "java/lang/invoke/MethodHandle" ∧ y_M_check.cls ≠ "java/lang/invoke/VarHandle" ∧ (parseMethodDescriptor y_M_check.desc).map (fun d => d.parameters.length) = some 0 := by decide +kernel
def y_M_alike : MethodName := ⟨"GridFillsModel", "alike", "(I)Z"⟩
abbrev b_M_alike : ByteArray := prog_7_method_34_code
theorem hd_M_alike : y_M_alike.cls ≠ "java/lang/invoke/MethodHandle" ∧ y_M_alike.cls ≠ "java/lang/invoke/VarHandle" ∧ (parseMethodDescriptor y_M_alike.desc).map (fun d => d.parameters.length) = some 1 := by decide +kernel
def y_M_isSeen : MethodName := ⟨"GridFillsModel", "isSeen", "(II)Z"⟩
abbrev b_M_isSeen : ByteArray := prog_7_method_36_code
theorem hd_M_isSeen : y_M_isSeen.cls ≠ "java/lang/invoke/MethodHandle" ∧ y_M_isSeen.cls ≠ "java/lang/invoke/VarHandle" ∧ (parseMethodDescriptor y_M_isSeen.desc).map (fun d => d.parameters.length) = some 2 := by decide +kernel
def y_M_parts : MethodName := ⟨"GridFillsModel", "parts", "()I"⟩
abbrev b_M_parts : ByteArray := prog_7_method_35_code
theorem hd_M_parts : y_M_parts.cls ≠ "java/lang/invoke/MethodHandle" ∧ y_M_parts.cls ≠ "java/lang/invoke/VarHandle" ∧ (parseMethodDescriptor y_M_parts.desc).map (fun d => d.parameters.length) = some 0 := by decide +kernel
abbrev rm_JL_bitCount : Room := { frames := 0, cells := 0, slots := 0, locals := 0 }
abbrev rm_JA_fillI : Room := { frames := 0, cells := 0, slots := 0, locals := 0 }
abbrev rm_JA_fillJ : Room := { frames := 0, cells := 0, slots := 0, locals := 0 }
abbrev rm_G_cellAt : Room := { frames := 0, cells := 0, slots := 0, locals := 0 }
abbrev rm_G_hasSlot : Room := { frames := 0, cells := 0, slots := 0, locals := 0 }
abbrev rm_G_cellOf : Room := { frames := 0, cells := 0, slots := 0, locals := 0 }
abbrev rm_G_slotAt : Room := { frames := 0, cells := 0, slots := 0, locals := 0 }
abbrev rm_G_placeAt : Room := { frames := 0, cells := 0, slots := 0, locals := 0 }
abbrev rm_G_isOpen : Room := { frames := 1, cells := 0, slots := 0, locals := 22 }
abbrev rm_G_markCells : Room := { frames := 1, cells := 0, slots := 0, locals := 22 }
abbrev rm_G_addSlotFrom : Room := { frames := 2, cells := 0, slots := 0, locals := 45 }
abbrev rm_G_findSlots : Room := { frames := 3, cells := 0, slots := 0, locals := 71 }
abbrev rm_G_paint : Room := { frames := 4, cells := 0, slots := 0, locals := 94 }
abbrev rm_G_imageIsOpen : Room := { frames := 2, cells := 0, slots := 0, locals := 45 }
abbrev rm_G_looksTheSame : Room := { frames := 3, cells := 0, slots := 0, locals := 68 }
abbrev rm_G_join : Room := { frames := 2, cells := 0, slots := 0, locals := 45 }
abbrev rm_G_countParts : Room := { frames := 3, cells := 0, slots := 0, locals := 72 }
abbrev rm_L_lowBit : Room := { frames := 0, cells := 0, slots := 0, locals := 0 }
abbrev rm_L_highBit : Room := { frames := 0, cells := 0, slots := 0, locals := 0 }
abbrev rm_L_keyOf : Room := { frames := 0, cells := 0, slots := 0, locals := 0 }
abbrev rm_L_hasWord : Room := { frames := 0, cells := 0, slots := 0, locals := 0 }
abbrev rm_L_letterOf : Room := { frames := 0, cells := 0, slots := 0, locals := 0 }
abbrev rm_L_collect : Room := { frames := 0, cells := 0, slots := 0, locals := 0 }
abbrev rm_L_dropCollected : Room := { frames := 0, cells := 0, slots := 0, locals := 0 }
abbrev rm_L_isCollected : Room := { frames := 1, cells := 0, slots := 0, locals := 22 }
abbrev rm_L_isThere : Room := { frames := 2, cells := 0, slots := 0, locals := 44 }
abbrev rm_L_rank : Room := { frames := 0, cells := 0, slots := 0, locals := 0 }
abbrev rm_L_sortIntoSets : Room := { frames := 1, cells := 0, slots := 0, locals := 24 }
abbrev rm_L_wordFromCollected : Room := { frames := 3, cells := 0, slots := 0, locals := 65 }
abbrev rm_F_forget : Room := { frames := 0, cells := 0, slots := 0, locals := 0 }
abbrev rm_F_keep : Room := { frames := 1, cells := 0, slots := 0, locals := 40 }
abbrev rm_F_wordOf : Room := { frames := 0, cells := 0, slots := 0, locals := 0 }
abbrev rm_F_letterBy : Room := { frames := 1, cells := 0, slots := 0, locals := 22 }
abbrev rm_F_letterAt : Room := { frames := 2, cells := 0, slots := 0, locals := 45 }
abbrev rm_F_agrees : Room := { frames := 0, cells := 0, slots := 0, locals := 0 }
abbrev rm_F_holds : Room := { frames := 2, cells := 0, slots := 0, locals := 45 }
abbrev rm_F_firstFault : Room := { frames := 3, cells := 0, slots := 0, locals := 70 }
abbrev rm_S_narrow : Room := { frames := 0, cells := 0, slots := 0, locals := 0 }
abbrev rm_S_openSlot : Room := { frames := 1, cells := 0, slots := 0, locals := 22 }
abbrev rm_S_countAtStart : Room := { frames := 2, cells := 0, slots := 0, locals := 46 }
abbrev rm_S_clearSlots : Room := { frames := 2, cells := 0, slots := 0, locals := 46 }
abbrev rm_S_lowestBit : Room := { frames := 1, cells := 0, slots := 0, locals := 21 }
abbrev rm_S_takeFilling : Room := { frames := 2, cells := 0, slots := 0, locals := 62 }
abbrev rm_S_slotWithFewest : Room := { frames := 1, cells := 0, slots := 0, locals := 21 }
abbrev rm_S_narrowCrossing : Room := { frames := 1, cells := 0, slots := 0, locals := 40 }
abbrev rm_X_black : Room := { frames := 5, cells := 0, slots := 0, locals := 116 }
abbrev rm_X_isLetter : Room := { frames := 0, cells := 0, slots := 0, locals := 0 }
abbrev rm_X_unit : Room := { frames := 1, cells := 0, slots := 0, locals := 21 }
abbrev rm_X_word : Room := { frames := 4, cells := 0, slots := 0, locals := 87 }
abbrev rm_X_given : Room := { frames := 1, cells := 0, slots := 0, locals := 22 }
abbrev rm_X_theme : Room := { frames := 1, cells := 0, slots := 0, locals := 21 }
abbrev rm_X_slots : Room := { frames := 0, cells := 0, slots := 0, locals := 0 }
abbrev rm_X_slot : Room := { frames := 3, cells := 0, slots := 0, locals := 67 }
abbrev rm_X_steps : Room := { frames := 0, cells := 0, slots := 0, locals := 0 }
abbrev rm_X_many : Room := { frames := 0, cells := 0, slots := 0, locals := 0 }
abbrev rm_X_score : Room := { frames := 0, cells := 0, slots := 0, locals := 0 }
abbrev rm_X_letter : Room := { frames := 3, cells := 0, slots := 0, locals := 67 }
abbrev rm_X_check : Room := { frames := 4, cells := 0, slots := 0, locals := 91 }
abbrev rm_X_alike : Room := { frames := 4, cells := 0, slots := 0, locals := 91 }
abbrev rm_X_parts : Room := { frames := 4, cells := 0, slots := 0, locals := 95 }
abbrev rm_X_isStepLimit : Room := { frames := 0, cells := 0, slots := 0, locals := 0 }
abbrev rm_S_seek : Room := { frames := 61, cells := 0, slots := 0, locals := 2000 }
abbrev rm_X_run : Room := { frames := 62, cells := 0, slots := 0, locals := 2022 }
abbrev rm_X_best : Room := { frames := 62, cells := 0, slots := 0, locals := 2022 }
abbrev rm_M_isCell : Room := { frames := 0, cells := 0, slots := 0, locals := 0 }
abbrev rm_M_isOpen : Room := { frames := 1, cells := 0, slots := 0, locals := 22 }
abbrev rm_M_findSlots : Room := { frames := 2, cells := 0, slots := 0, locals := 44 }
abbrev rm_M_black : Room := { frames := 3, cells := 0, slots := 0, locals := 70 }
abbrev rm_M_isSlot : Room := { frames := 0, cells := 0, slots := 0, locals := 0 }
abbrev rm_M_cellOf : Room := { frames := 0, cells := 0, slots := 0, locals := 0 }
abbrev rm_M_isLetter : Room := { frames := 0, cells := 0, slots := 0, locals := 0 }
abbrev rm_M_unit : Room := { frames := 1, cells := 0, slots := 0, locals := 20 }
abbrev rm_M_isRow : Room := { frames := 0, cells := 0, slots := 0, locals := 0 }
abbrev rm_M_enter : Room := { frames := 1, cells := 0, slots := 0, locals := 22 }
abbrev rm_M_word : Room := { frames := 2, cells := 0, slots := 0, locals := 44 }
abbrev rm_M_given : Room := { frames := 2, cells := 0, slots := 0, locals := 44 }
abbrev rm_M_theme : Room := { frames := 1, cells := 0, slots := 0, locals := 21 }
abbrev rm_M_slots : Room := { frames := 0, cells := 0, slots := 0, locals := 0 }
abbrev rm_M_spell : Room := { frames := 1, cells := 0, slots := 0, locals := 22 }
abbrev rm_M_isUsed : Room := { frames := 0, cells := 0, slots := 0, locals := 0 }
abbrev rm_M_mayHave : Room := { frames := 1, cells := 0, slots := 0, locals := 22 }
abbrev rm_M_countFor : Room := { frames := 2, cells := 0, slots := 0, locals := 46 }
abbrev rm_M_clearNow : Room := { frames := 0, cells := 0, slots := 0, locals := 0 }
abbrev rm_M_slot : Room := { frames := 3, cells := 0, slots := 0, locals := 69 }
abbrev rm_M_isBefore : Room := { frames := 0, cells := 0, slots := 0, locals := 0 }
abbrev rm_M_open : Room := { frames := 3, cells := 0, slots := 0, locals := 69 }
abbrev rm_M_sumNow : Room := { frames := 0, cells := 0, slots := 0, locals := 0 }
abbrev rm_M_search : Room := { frames := 4, cells := 0, slots := 0, locals := 95 }
abbrev rm_M_run : Room := { frames := 5, cells := 0, slots := 0, locals := 121 }
abbrev rm_M_best : Room := { frames := 5, cells := 0, slots := 0, locals := 121 }
abbrev rm_M_steps : Room := { frames := 0, cells := 0, slots := 0, locals := 0 }
abbrev rm_M_many : Room := { frames := 0, cells := 0, slots := 0, locals := 0 }
abbrev rm_M_score : Room := { frames := 0, cells := 0, slots := 0, locals := 0 }
abbrev rm_M_letter : Room := { frames := 1, cells := 0, slots := 0, locals := 22 }
abbrev rm_M_check : Room := { frames := 1, cells := 0, slots := 0, locals := 22 }
abbrev rm_M_alike : Room := { frames := 0, cells := 0, slots := 0, locals := 0 }
abbrev rm_M_isSeen : Room := { frames := 1, cells := 0, slots := 0, locals := 22 }
abbrev rm_M_parts : Room := { frames := 2, cells := 0, slots := 0, locals := 44 }
abbrev rm_JA_fillI_GthemeOf : Room := { frames := 0, cells := 0, slots := 0, locals := 0 }
abbrev rm_JA_fillI_GslotThrough : Room := { frames := 0, cells := 0, slots := 0, locals := 0 }
abbrev rm_JA_fillI_GgivenAt : Room := { frames := 0, cells := 0, slots := 0, locals := 0 }
abbrev rm_JA_fillJ_LlowOfLength : Room := { frames := 0, cells := 0, slots := 0, locals := 0 }
abbrev rm_JA_fillJ_LhighOfLength : Room := { frames := 0, cells := 0, slots := 0, locals := 0 }
abbrev rm_JA_fillJ_LlowOfKey : Room := { frames := 0, cells := 0, slots := 0, locals := 0 }
abbrev rm_JA_fillJ_LhighOfKey : Room := { frames := 0, cells := 0, slots := 0, locals := 0 }
abbrev rm_S_fillFrom (d : Nat) : Room := { frames := 2 * d + 8, cells := 0, slots := 0, locals := 60 * d + 400 }
abbrev rm_S_tryWord (d : Nat) : Room := { frames := 2 * d + 9, cells := 0, slots := 0, locals := 60 * d + 430 }
theorem zz_sw6_0 (x : Int32) : x = 0 ∨ x = 1 ∨ x = 2 ∨ x = 3 ∨ x = 4 ∨ x = 5 ∨ (x.toInt < 0 ∨ 5 < x.toInt) := by
  simp only [← Int32.toInt_inj, show (0 : Int32).toInt = 0 from rfl, show (1 : Int32).toInt = 1 from rfl, show (2 : Int32).toInt = 2 from rfl, show (3 : Int32).toInt = 3 from rfl, show (4 : Int32).toInt = 4 from rfl, show (5 : Int32).toInt = 5 from rfl]
  omega
theorem zz_sw3_0 (x : Int32) : x = 0 ∨ x = 1 ∨ x = 2 ∨ (x.toInt < 0 ∨ 2 < x.toInt) := by
  simp only [← Int32.toInt_inj, show (0 : Int32).toInt = 0 from rfl, show (1 : Int32).toInt = 1 from rfl, show (2 : Int32).toInt = 2 from rfl]
  omega
theorem kw_0 : Cond.constantLong "java/lang/Long" 314 (6148914691236517205) ∈ zz_tbl := zz_mem (List.mem_append_right _ (List.mem_append_right _ (List.mem_append_left _ (List.mem_of_getElem? (i := 133) rfl)))) rfl
theorem kw_1 : Cond.constantLong "java/lang/Long" 316 (3689348814741910323) ∈ zz_tbl := zz_mem (List.mem_append_right _ (List.mem_append_right _ (List.mem_append_left _ (List.mem_of_getElem? (i := 134) rfl)))) rfl
theorem kw_2 : Cond.constantLong "java/lang/Long" 318 (1085102592571150095) ∈ zz_tbl := zz_mem (List.mem_append_right _ (List.mem_append_right _ (List.mem_append_left _ (List.mem_of_getElem? (i := 135) rfl)))) rfl
theorem kw_3 : Cond.fieldLink "GridFills$Grid" 40 "GridFills$Grid" "width" "I" ∈ zz_tbl := zz_mem (List.mem_append_right _ (List.mem_append_left _ (List.mem_of_getElem? (i := 61) rfl))) rfl
theorem kw_4 : Cond.fieldLink "GridFills$Grid" 44 "GridFills$Grid" "height" "I" ∈ zz_tbl := zz_mem (List.mem_append_right _ (List.mem_append_left _ (List.mem_of_getElem? (i := 63) rfl))) rfl
theorem kw_5 : Cond.fieldLink "GridFills$Grid" 53 "GridFills$Grid" "slotCount" "I" ∈ zz_tbl := zz_mem (List.mem_append_right _ (List.mem_append_left _ (List.mem_of_getElem? (i := 72) rfl))) rfl
theorem kw_6 : Cond.fieldLink "GridFills$Grid" 19 "GridFills$Grid" "firstOf" "[I" ∈ zz_tbl := zz_mem (List.mem_append_right _ (List.mem_append_left _ (List.mem_of_getElem? (i := 76) rfl))) rfl
theorem kw_7 : Cond.fieldLink "GridFills$Grid" 25 "GridFills$Grid" "directionOf" "[I" ∈ zz_tbl := zz_mem (List.mem_append_right _ (List.mem_append_left _ (List.mem_of_getElem? (i := 82) rfl))) rfl
theorem kw_8 : Cond.fieldLink "GridFills$Grid" 31 "GridFills$Grid" "slotThrough" "[I" ∈ zz_tbl := zz_mem (List.mem_append_right _ (List.mem_append_left _ (List.mem_of_getElem? (i := 90) rfl))) rfl
theorem kw_9 : Cond.fieldLink "GridFills$Grid" 34 "GridFills$Grid" "placeThrough" "[I" ∈ zz_tbl := zz_mem (List.mem_append_right _ (List.mem_append_left _ (List.mem_of_getElem? (i := 91) rfl))) rfl
theorem kw_10 : Cond.fieldLink "GridFills$Grid" 9 "GridFills$Grid" "isBlack" "[Z" ∈ zz_tbl := zz_mem (List.mem_append_right _ (List.mem_append_left _ (List.mem_of_getElem? (i := 66) rfl))) rfl
theorem kw_11 : Cond.methodLink "GridFills$Grid" 70 y_G_cellAt ∈ zz_tbl := zz_mem (List.mem_append_right _ (List.mem_append_left _ (List.mem_of_getElem? (i := 49) rfl))) rfl
theorem kw_12 : Cond.code y_G_cellAt b_G_cellAt 3 (some .int) ∈ zz_tbl := zz_mem (List.mem_append_right _ (List.mem_append_left _ (List.mem_of_getElem? (i := 52) rfl))) rfl
theorem kw_13 : Cond.initialized "GridFills$Grid" ∈ zz_tbl := zz_mem (List.mem_append_right _ (List.mem_append_left _ (List.mem_of_getElem? (i := 2) rfl))) rfl
theorem kw_14 : Cond.instanceMethod y_G_cellAt ∈ zz_tbl := zz_mem (List.mem_append_right _ (List.mem_append_left _ (List.mem_of_getElem? (i := 50) rfl))) rfl
theorem kw_15 : Cond.selects "GridFills$Grid" y_G_cellAt y_G_cellAt ∈ zz_tbl := zz_mem (List.mem_append_right _ (List.mem_append_left _ (List.mem_of_getElem? (i := 51) rfl))) rfl
theorem kw_16 : Cond.fieldLink "GridFills$Grid" 22 "GridFills$Grid" "lengthOf" "[I" ∈ zz_tbl := zz_mem (List.mem_append_right _ (List.mem_append_left _ (List.mem_of_getElem? (i := 78) rfl))) rfl
theorem kw_17 : Cond.methodLink "GridFills$Grid" 78 y_G_cellOf ∈ zz_tbl := zz_mem (List.mem_append_right _ (List.mem_append_left _ (List.mem_of_getElem? (i := 57) rfl))) rfl
theorem kw_18 : Cond.code y_G_cellOf b_G_cellOf 3 (some .int) ∈ zz_tbl := zz_mem (List.mem_append_right _ (List.mem_append_left _ (List.mem_of_getElem? (i := 60) rfl))) rfl
theorem kw_19 : Cond.instanceMethod y_G_cellOf ∈ zz_tbl := zz_mem (List.mem_append_right _ (List.mem_append_left _ (List.mem_of_getElem? (i := 58) rfl))) rfl
theorem kw_20 : Cond.selects "GridFills$Grid" y_G_cellOf y_G_cellOf ∈ zz_tbl := zz_mem (List.mem_append_right _ (List.mem_append_left _ (List.mem_of_getElem? (i := 59) rfl))) rfl
theorem kw_21 : Cond.methodLink "GridFills$Grid" 66 y_G_isOpen ∈ zz_tbl := zz_mem (List.mem_append_right _ (List.mem_append_left _ (List.mem_of_getElem? (i := 45) rfl))) rfl
theorem kw_22 : Cond.code y_G_isOpen b_G_isOpen 4 (some .boolean) ∈ zz_tbl := zz_mem (List.mem_append_right _ (List.mem_append_left _ (List.mem_of_getElem? (i := 48) rfl))) rfl
theorem kw_23 : Cond.instanceMethod y_G_isOpen ∈ zz_tbl := zz_mem (List.mem_append_right _ (List.mem_append_left _ (List.mem_of_getElem? (i := 47) rfl))) rfl
theorem kw_24 : Cond.selects "GridFills$Grid" y_G_isOpen y_G_isOpen ∈ zz_tbl := zz_mem (List.mem_append_left _ (List.mem_of_getElem? (i := 2) rfl)) rfl
theorem kw_25 : Cond.methodLink "GridFills$Grid" 74 y_G_markCells ∈ zz_tbl := zz_mem (List.mem_append_right _ (List.mem_append_left _ (List.mem_of_getElem? (i := 53) rfl))) rfl
theorem kw_26 : Cond.code y_G_markCells b_G_markCells 4 none ∈ zz_tbl := zz_mem (List.mem_append_right _ (List.mem_append_left _ (List.mem_of_getElem? (i := 56) rfl))) rfl
theorem kw_27 : Cond.instanceMethod y_G_markCells ∈ zz_tbl := zz_mem (List.mem_append_right _ (List.mem_append_left _ (List.mem_of_getElem? (i := 55) rfl))) rfl
theorem kw_28 : Cond.selects "GridFills$Grid" y_G_markCells y_G_markCells ∈ zz_tbl := zz_mem (List.mem_append_left _ (List.mem_of_getElem? (i := 3) rfl)) rfl
theorem kw_29 : Cond.fieldLink "GridFills$Grid" 28 "GridFills$Grid" "themeOf" "[I" ∈ zz_tbl := zz_mem (List.mem_append_right _ (List.mem_append_left _ (List.mem_of_getElem? (i := 86) rfl))) rfl
theorem kw_30 : Cond.methodLink "GridFills$Grid" 56 y_JA_fillI ∈ zz_tbl := zz_mem (List.mem_append_right _ (List.mem_append_left _ (List.mem_of_getElem? (i := 38) rfl))) rfl
theorem kw_31 : Cond.code y_JA_fillI b_JA_fillI 4 none ∈ zz_tbl := zz_mem (List.mem_append_right _ (List.mem_append_left _ (List.mem_of_getElem? (i := 40) rfl))) rfl
theorem kw_32 : Cond.initialized "java/util/Arrays" ∈ zz_tbl := zz_mem (List.mem_append_right _ (List.mem_append_left _ (List.mem_of_getElem? (i := 4) rfl))) rfl
theorem kw_33 : Cond.static y_JA_fillI ∈ zz_tbl := zz_mem (List.mem_append_right _ (List.mem_append_left _ (List.mem_of_getElem? (i := 39) rfl))) rfl
theorem kw_34 : Cond.methodLink "GridFills$Grid" 62 y_G_addSlotFrom ∈ zz_tbl := zz_mem (List.mem_append_right _ (List.mem_append_left _ (List.mem_of_getElem? (i := 41) rfl))) rfl
theorem kw_35 : Cond.code y_G_addSlotFrom b_G_addSlotFrom 7 none ∈ zz_tbl := zz_mem (List.mem_append_right _ (List.mem_append_left _ (List.mem_of_getElem? (i := 44) rfl))) rfl
theorem kw_36 : Cond.instanceMethod y_G_addSlotFrom ∈ zz_tbl := zz_mem (List.mem_append_right _ (List.mem_append_left _ (List.mem_of_getElem? (i := 43) rfl))) rfl
theorem kw_37 : Cond.selects "GridFills$Grid" y_G_addSlotFrom y_G_addSlotFrom ∈ zz_tbl := zz_mem (List.mem_append_left _ (List.mem_of_getElem? (i := 1) rfl)) rfl
theorem kw_38 : Cond.fieldLink "GridFills$Grid" 15 "GridFills$Grid" "givenAt" "[I" ∈ zz_tbl := zz_mem (List.mem_append_right _ (List.mem_append_left _ (List.mem_of_getElem? (i := 68) rfl))) rfl
theorem kw_39 : Cond.methodLink "GridFills$Grid" 50 y_G_findSlots ∈ zz_tbl := zz_mem (List.mem_append_right _ (List.mem_append_left _ (List.mem_of_getElem? (i := 34) rfl))) rfl
theorem kw_40 : Cond.code y_G_findSlots b_G_findSlots 4 none ∈ zz_tbl := zz_mem (List.mem_append_right _ (List.mem_append_left _ (List.mem_of_getElem? (i := 37) rfl))) rfl
theorem kw_41 : Cond.instanceMethod y_G_findSlots ∈ zz_tbl := zz_mem (List.mem_append_right _ (List.mem_append_left _ (List.mem_of_getElem? (i := 36) rfl))) rfl
theorem kw_42 : Cond.selects "GridFills$Grid" y_G_findSlots y_G_findSlots ∈ zz_tbl := zz_mem (List.mem_append_left _ (List.mem_of_getElem? (i := 0) rfl)) rfl
theorem kw_43 : Cond.methodLink "GridFills$Grid" 81 y_G_imageIsOpen ∈ zz_tbl := zz_mem (List.mem_append_right _ (List.mem_append_right _ (List.mem_append_right _ (List.mem_append_left _ (List.mem_of_getElem? (i := 10) rfl))))) rfl
theorem kw_44 : Cond.code y_G_imageIsOpen b_G_imageIsOpen 4 (some .boolean) ∈ zz_tbl := zz_mem (List.mem_append_right _ (List.mem_append_right _ (List.mem_append_right _ (List.mem_append_left _ (List.mem_of_getElem? (i := 13) rfl))))) rfl
theorem kw_45 : Cond.instanceMethod y_G_imageIsOpen ∈ zz_tbl := zz_mem (List.mem_append_right _ (List.mem_append_right _ (List.mem_append_right _ (List.mem_append_left _ (List.mem_of_getElem? (i := 12) rfl))))) rfl
theorem kw_46 : Cond.selects "GridFills$Grid" y_G_imageIsOpen y_G_imageIsOpen ∈ zz_tbl := zz_mem (List.mem_append_left _ (List.mem_of_getElem? (i := 18) rfl)) rfl
theorem kw_47 : Cond.fieldLink "GridFills$Grid" 37 "GridFills$Grid" "partOf" "[I" ∈ zz_tbl := zz_mem (List.mem_append_right _ (List.mem_append_left _ (List.mem_of_getElem? (i := 92) rfl))) rfl
theorem kw_48 : Cond.fieldLink "GridFills$Grid" 47 "GridFills$Grid" "cellCount" "I" ∈ zz_tbl := zz_mem (List.mem_append_right _ (List.mem_append_left _ (List.mem_of_getElem? (i := 65) rfl))) rfl
theorem kw_49 : Cond.methodLink "GridFills$Grid" 85 y_G_join ∈ zz_tbl := zz_mem (List.mem_append_right _ (List.mem_append_right _ (List.mem_append_right _ (List.mem_append_left _ (List.mem_of_getElem? (i := 22) rfl))))) rfl
theorem kw_50 : Cond.code y_G_join b_G_join 8 (some .boolean) ∈ zz_tbl := zz_mem (List.mem_append_right _ (List.mem_append_right _ (List.mem_append_right _ (List.mem_append_left _ (List.mem_of_getElem? (i := 25) rfl))))) rfl
theorem kw_51 : Cond.instanceMethod y_G_join ∈ zz_tbl := zz_mem (List.mem_append_right _ (List.mem_append_right _ (List.mem_append_right _ (List.mem_append_left _ (List.mem_of_getElem? (i := 24) rfl))))) rfl
theorem kw_52 : Cond.selects "GridFills$Grid" y_G_join y_G_join ∈ zz_tbl := zz_mem (List.mem_append_left _ (List.mem_of_getElem? (i := 19) rfl)) rfl
theorem kw_53 : Cond.fieldLink "GridFills$WordList" 43 "GridFills$WordList" "count" "I" ∈ zz_tbl := zz_mem (List.mem_append_right _ (List.mem_append_left _ (List.mem_of_getElem? (i := 128) rfl))) rfl
theorem kw_54 : Cond.fieldLink "GridFills$WordList" 37 "GridFills$WordList" "letters" "[I" ∈ zz_tbl := zz_mem (List.mem_append_right _ (List.mem_append_left _ (List.mem_of_getElem? (i := 145) rfl))) rfl
theorem kw_55 : Cond.fieldLink "GridFills$WordList" 47 "GridFills$WordList" "collectedCount" "I" ∈ zz_tbl := zz_mem (List.mem_append_right _ (List.mem_append_left _ (List.mem_of_getElem? (i := 147) rfl))) rfl
theorem kw_56 : Cond.fieldLink "GridFills$WordList" 40 "GridFills$WordList" "collected" "[I" ∈ zz_tbl := zz_mem (List.mem_append_right _ (List.mem_append_left _ (List.mem_of_getElem? (i := 146) rfl))) rfl
theorem kw_57 : Cond.fieldLink "GridFills$WordList" 9 "GridFills$WordList" "lengthOf" "[I" ∈ zz_tbl := zz_mem (List.mem_append_right _ (List.mem_append_left _ (List.mem_of_getElem? (i := 129) rfl))) rfl
theorem kw_58 : Cond.methodLink "GridFills$WordList" 71 y_L_letterOf ∈ zz_tbl := zz_mem (List.mem_append_right _ (List.mem_append_right _ (List.mem_append_left _ (List.mem_of_getElem? (i := 59) rfl)))) rfl
theorem kw_59 : Cond.code y_L_letterOf b_L_letterOf 3 (some .int) ∈ zz_tbl := zz_mem (List.mem_append_right _ (List.mem_append_right _ (List.mem_append_left _ (List.mem_of_getElem? (i := 62) rfl)))) rfl
theorem kw_60 : Cond.initialized "GridFills$WordList" ∈ zz_tbl := zz_mem (List.mem_append_right _ (List.mem_append_left _ (List.mem_of_getElem? (i := 5) rfl))) rfl
theorem kw_61 : Cond.instanceMethod y_L_letterOf ∈ zz_tbl := zz_mem (List.mem_append_right _ (List.mem_append_right _ (List.mem_append_left _ (List.mem_of_getElem? (i := 60) rfl)))) rfl
theorem kw_62 : Cond.selects "GridFills$WordList" y_L_letterOf y_L_letterOf ∈ zz_tbl := zz_mem (List.mem_append_right _ (List.mem_append_right _ (List.mem_append_left _ (List.mem_of_getElem? (i := 61) rfl)))) rfl
theorem kw_63 : Cond.methodLink "GridFills$WordList" 67 y_L_isCollected ∈ zz_tbl := zz_mem (List.mem_append_right _ (List.mem_append_right _ (List.mem_append_left _ (List.mem_of_getElem? (i := 55) rfl)))) rfl
theorem kw_64 : Cond.code y_L_isCollected b_L_isCollected 3 (some .boolean) ∈ zz_tbl := zz_mem (List.mem_append_right _ (List.mem_append_right _ (List.mem_append_left _ (List.mem_of_getElem? (i := 58) rfl)))) rfl
theorem kw_65 : Cond.instanceMethod y_L_isCollected ∈ zz_tbl := zz_mem (List.mem_append_right _ (List.mem_append_right _ (List.mem_append_left _ (List.mem_of_getElem? (i := 57) rfl)))) rfl
theorem kw_66 : Cond.selects "GridFills$WordList" y_L_isCollected y_L_isCollected ∈ zz_tbl := zz_mem (List.mem_append_left _ (List.mem_of_getElem? (i := 5) rfl)) rfl
theorem kw_67 : Cond.fieldLink "GridFills$WordList" 15 "GridFills$WordList" "scoreOf" "[I" ∈ zz_tbl := zz_mem (List.mem_append_right _ (List.mem_append_left _ (List.mem_of_getElem? (i := 131) rfl))) rfl
theorem kw_68 : Cond.fieldLink "GridFills$WordList" 18 "GridFills$WordList" "wordOfRank" "[I" ∈ zz_tbl := zz_mem (List.mem_append_right _ (List.mem_append_left _ (List.mem_of_getElem? (i := 133) rfl))) rfl
theorem kw_69 : Cond.fieldLink "GridFills$WordList" 24 "GridFills$WordList" "lowOfLength" "[J" ∈ zz_tbl := zz_mem (List.mem_append_right _ (List.mem_append_left _ (List.mem_of_getElem? (i := 137) rfl))) rfl
theorem kw_70 : Cond.fieldLink "GridFills$WordList" 28 "GridFills$WordList" "highOfLength" "[J" ∈ zz_tbl := zz_mem (List.mem_append_right _ (List.mem_append_left _ (List.mem_of_getElem? (i := 139) rfl))) rfl
theorem kw_71 : Cond.fieldLink "GridFills$WordList" 31 "GridFills$WordList" "lowOfKey" "[J" ∈ zz_tbl := zz_mem (List.mem_append_right _ (List.mem_append_left _ (List.mem_of_getElem? (i := 141) rfl))) rfl
theorem kw_72 : Cond.fieldLink "GridFills$WordList" 34 "GridFills$WordList" "highOfKey" "[J" ∈ zz_tbl := zz_mem (List.mem_append_right _ (List.mem_append_left _ (List.mem_of_getElem? (i := 143) rfl))) rfl
theorem kw_73 : Cond.methodLink "GridFills$WordList" 75 y_JA_fillJ ∈ zz_tbl := zz_mem (List.mem_append_right _ (List.mem_append_right _ (List.mem_append_left _ (List.mem_of_getElem? (i := 74) rfl)))) rfl
theorem kw_74 : Cond.code y_JA_fillJ b_JA_fillJ 5 none ∈ zz_tbl := zz_mem (List.mem_append_right _ (List.mem_append_right _ (List.mem_append_left _ (List.mem_of_getElem? (i := 76) rfl)))) rfl
theorem kw_75 : Cond.static y_JA_fillJ ∈ zz_tbl := zz_mem (List.mem_append_right _ (List.mem_append_right _ (List.mem_append_left _ (List.mem_of_getElem? (i := 75) rfl)))) rfl
theorem kw_76 : Cond.fieldLink "GridFills$WordList" 21 "GridFills$WordList" "rankOf" "[I" ∈ zz_tbl := zz_mem (List.mem_append_right _ (List.mem_append_left _ (List.mem_of_getElem? (i := 135) rfl))) rfl
theorem kw_77 : Cond.methodLink "GridFills$WordList" 85 y_L_highBit ∈ zz_tbl := zz_mem (List.mem_append_right _ (List.mem_append_right _ (List.mem_append_left _ (List.mem_of_getElem? (i := 80) rfl)))) rfl
theorem kw_78 : Cond.code y_L_highBit b_L_highBit 1 (some .long) ∈ zz_tbl := zz_mem (List.mem_append_right _ (List.mem_append_right _ (List.mem_append_left _ (List.mem_of_getElem? (i := 82) rfl)))) rfl
theorem kw_79 : Cond.static y_L_highBit ∈ zz_tbl := zz_mem (List.mem_append_right _ (List.mem_append_right _ (List.mem_append_left _ (List.mem_of_getElem? (i := 81) rfl)))) rfl
theorem kw_80 : Cond.methodLink "GridFills$WordList" 81 y_L_lowBit ∈ zz_tbl := zz_mem (List.mem_append_right _ (List.mem_append_right _ (List.mem_append_left _ (List.mem_of_getElem? (i := 77) rfl)))) rfl
theorem kw_81 : Cond.code y_L_lowBit b_L_lowBit 1 (some .long) ∈ zz_tbl := zz_mem (List.mem_append_right _ (List.mem_append_right _ (List.mem_append_left _ (List.mem_of_getElem? (i := 79) rfl)))) rfl
theorem kw_82 : Cond.static y_L_lowBit ∈ zz_tbl := zz_mem (List.mem_append_right _ (List.mem_append_right _ (List.mem_append_left _ (List.mem_of_getElem? (i := 78) rfl)))) rfl
theorem kw_83 : Cond.methodLink "GridFills$WordList" 88 y_L_keyOf ∈ zz_tbl := zz_mem (List.mem_append_right _ (List.mem_append_right _ (List.mem_append_left _ (List.mem_of_getElem? (i := 83) rfl)))) rfl
theorem kw_84 : Cond.code y_L_keyOf b_L_keyOf 2 (some .int) ∈ zz_tbl := zz_mem (List.mem_append_right _ (List.mem_append_right _ (List.mem_append_left _ (List.mem_of_getElem? (i := 85) rfl)))) rfl
theorem kw_85 : Cond.static y_L_keyOf ∈ zz_tbl := zz_mem (List.mem_append_right _ (List.mem_append_right _ (List.mem_append_left _ (List.mem_of_getElem? (i := 84) rfl)))) rfl
theorem kw_86 : Cond.methodLink "GridFills$WordList" 54 ⟨"java/lang/System", "arraycopy", "(Ljava/lang/Object;ILjava/lang/Object;II)V"⟩ ∈ zz_tbl := zz_mem (List.mem_append_right _ (List.mem_append_right _ (List.mem_append_left _ (List.mem_of_getElem? (i := 63) rfl)))) rfl
theorem kw_87 : Cond.native ⟨"java/lang/System", "arraycopy", "(Ljava/lang/Object;ILjava/lang/Object;II)V"⟩ ∈ zz_tbl := zz_mem (List.mem_append_right _ (List.mem_append_right _ (List.mem_append_left _ (List.mem_of_getElem? (i := 65) rfl)))) rfl
theorem kw_88 : Cond.static ⟨"java/lang/System", "arraycopy", "(Ljava/lang/Object;ILjava/lang/Object;II)V"⟩ ∈ zz_tbl := zz_mem (List.mem_append_right _ (List.mem_append_right _ (List.mem_append_left _ (List.mem_of_getElem? (i := 64) rfl)))) rfl
theorem kw_89 : Cond.initialized "java/lang/System" ∈ zz_tbl := zz_mem (List.mem_append_right _ (List.mem_append_left _ (List.mem_of_getElem? (i := 9) rfl))) rfl
theorem kw_90 : Cond.methodLink "GridFills$WordList" 64 y_L_sortIntoSets ∈ zz_tbl := zz_mem (List.mem_append_right _ (List.mem_append_right _ (List.mem_append_left _ (List.mem_of_getElem? (i := 70) rfl)))) rfl
theorem kw_91 : Cond.code y_L_sortIntoSets b_L_sortIntoSets 5 none ∈ zz_tbl := zz_mem (List.mem_append_right _ (List.mem_append_right _ (List.mem_append_left _ (List.mem_of_getElem? (i := 73) rfl)))) rfl
theorem kw_92 : Cond.instanceMethod y_L_sortIntoSets ∈ zz_tbl := zz_mem (List.mem_append_right _ (List.mem_append_right _ (List.mem_append_left _ (List.mem_of_getElem? (i := 72) rfl)))) rfl
theorem kw_93 : Cond.selects "GridFills$WordList" y_L_sortIntoSets y_L_sortIntoSets ∈ zz_tbl := zz_mem (List.mem_append_left _ (List.mem_of_getElem? (i := 7) rfl)) rfl
theorem kw_94 : Cond.methodLink "GridFills$WordList" 60 y_L_rank ∈ zz_tbl := zz_mem (List.mem_append_right _ (List.mem_append_right _ (List.mem_append_left _ (List.mem_of_getElem? (i := 66) rfl)))) rfl
theorem kw_95 : Cond.code y_L_rank b_L_rank 3 none ∈ zz_tbl := zz_mem (List.mem_append_right _ (List.mem_append_right _ (List.mem_append_left _ (List.mem_of_getElem? (i := 69) rfl)))) rfl
theorem kw_96 : Cond.instanceMethod y_L_rank ∈ zz_tbl := zz_mem (List.mem_append_right _ (List.mem_append_right _ (List.mem_append_left _ (List.mem_of_getElem? (i := 68) rfl)))) rfl
theorem kw_97 : Cond.selects "GridFills$WordList" y_L_rank y_L_rank ∈ zz_tbl := zz_mem (List.mem_append_left _ (List.mem_of_getElem? (i := 6) rfl)) rfl
theorem kw_98 : Cond.methodLink "GridFills$WordList" 50 y_L_isThere ∈ zz_tbl := zz_mem (List.mem_append_right _ (List.mem_append_right _ (List.mem_append_left _ (List.mem_of_getElem? (i := 51) rfl)))) rfl
theorem kw_99 : Cond.code y_L_isThere b_L_isThere 2 (some .boolean) ∈ zz_tbl := zz_mem (List.mem_append_right _ (List.mem_append_right _ (List.mem_append_left _ (List.mem_of_getElem? (i := 54) rfl)))) rfl
theorem kw_100 : Cond.instanceMethod y_L_isThere ∈ zz_tbl := zz_mem (List.mem_append_right _ (List.mem_append_right _ (List.mem_append_left _ (List.mem_of_getElem? (i := 53) rfl)))) rfl
theorem kw_101 : Cond.selects "GridFills$WordList" y_L_isThere y_L_isThere ∈ zz_tbl := zz_mem (List.mem_append_left _ (List.mem_of_getElem? (i := 4) rfl)) rfl
theorem kw_102 : Cond.fieldLink "GridFills$Filling" 15 "GridFills$Filling" "total" "I" ∈ zz_tbl := zz_mem (List.mem_append_right _ (List.mem_append_left _ (List.mem_of_getElem? (i := 183) rfl))) rfl
theorem kw_103 : Cond.fieldLink "GridFills$Filling" 9 "GridFills$Filling" "wordIn" "[I" ∈ zz_tbl := zz_mem (List.mem_append_right _ (List.mem_append_left _ (List.mem_of_getElem? (i := 182) rfl))) rfl
theorem kw_104 : Cond.fieldLink "GridFills$Filling" 19 "GridFills$Filling" "grid" "LGridFills$Grid;" ∈ zz_tbl := zz_mem (List.mem_append_right _ (List.mem_append_left _ (List.mem_of_getElem? (i := 180) rfl))) rfl
theorem kw_105 : Cond.fieldLink "GridFills$Filling" 27 "GridFills$Grid" "slotCount" "I" ∈ zz_tbl := zz_mem (List.mem_append_right _ (List.mem_append_left _ (List.mem_of_getElem? (i := 73) rfl))) rfl
theorem kw_106 : Cond.methodLink "GridFills$Filling" 32 ⟨"java/lang/System", "arraycopy", "(Ljava/lang/Object;ILjava/lang/Object;II)V"⟩ ∈ zz_tbl := zz_mem (List.mem_append_right _ (List.mem_append_right _ (List.mem_append_left _ (List.mem_of_getElem? (i := 168) rfl)))) rfl
theorem kw_107 : Cond.fieldLink "GridFills$Filling" 23 "GridFills$Filling" "list" "LGridFills$WordList;" ∈ zz_tbl := zz_mem (List.mem_append_right _ (List.mem_append_left _ (List.mem_of_getElem? (i := 181) rfl))) rfl
theorem kw_108 : Cond.methodLink "GridFills$Filling" 48 y_L_letterOf ∈ zz_tbl := zz_mem (List.mem_append_right _ (List.mem_append_right _ (List.mem_append_left _ (List.mem_of_getElem? (i := 225) rfl)))) rfl
theorem kw_109 : Cond.methodLink "GridFills$Filling" 45 y_G_placeAt ∈ zz_tbl := zz_mem (List.mem_append_right _ (List.mem_append_right _ (List.mem_append_left _ (List.mem_of_getElem? (i := 224) rfl)))) rfl
theorem kw_110 : Cond.code y_G_placeAt b_G_placeAt 3 (some .int) ∈ zz_tbl := zz_mem (List.mem_append_right _ (List.mem_append_right _ (List.mem_append_left _ (List.mem_of_getElem? (i := 193) rfl)))) rfl
theorem kw_111 : Cond.instanceMethod y_G_placeAt ∈ zz_tbl := zz_mem (List.mem_append_right _ (List.mem_append_right _ (List.mem_append_left _ (List.mem_of_getElem? (i := 191) rfl)))) rfl
theorem kw_112 : Cond.selects "GridFills$Grid" y_G_placeAt y_G_placeAt ∈ zz_tbl := zz_mem (List.mem_append_right _ (List.mem_append_right _ (List.mem_append_left _ (List.mem_of_getElem? (i := 192) rfl)))) rfl
theorem kw_113 : Cond.methodLink "GridFills$Filling" 42 y_G_slotAt ∈ zz_tbl := zz_mem (List.mem_append_right _ (List.mem_append_right _ (List.mem_append_left _ (List.mem_of_getElem? (i := 223) rfl)))) rfl
theorem kw_114 : Cond.code y_G_slotAt b_G_slotAt 3 (some .int) ∈ zz_tbl := zz_mem (List.mem_append_right _ (List.mem_append_right _ (List.mem_append_left _ (List.mem_of_getElem? (i := 189) rfl)))) rfl
theorem kw_115 : Cond.instanceMethod y_G_slotAt ∈ zz_tbl := zz_mem (List.mem_append_right _ (List.mem_append_right _ (List.mem_append_left _ (List.mem_of_getElem? (i := 187) rfl)))) rfl
theorem kw_116 : Cond.selects "GridFills$Grid" y_G_slotAt y_G_slotAt ∈ zz_tbl := zz_mem (List.mem_append_right _ (List.mem_append_right _ (List.mem_append_left _ (List.mem_of_getElem? (i := 188) rfl)))) rfl
theorem kw_117 : Cond.methodLink "GridFills$Filling" 38 y_F_letterBy ∈ zz_tbl := zz_mem (List.mem_append_right _ (List.mem_append_right _ (List.mem_append_left _ (List.mem_of_getElem? (i := 219) rfl)))) rfl
theorem kw_118 : Cond.code y_F_letterBy b_F_letterBy 4 (some .int) ∈ zz_tbl := zz_mem (List.mem_append_right _ (List.mem_append_right _ (List.mem_append_left _ (List.mem_of_getElem? (i := 222) rfl)))) rfl
theorem kw_119 : Cond.initialized "GridFills$Filling" ∈ zz_tbl := zz_mem (List.mem_append_right _ (List.mem_append_left _ (List.mem_of_getElem? (i := 6) rfl))) rfl
theorem kw_120 : Cond.instanceMethod y_F_letterBy ∈ zz_tbl := zz_mem (List.mem_append_right _ (List.mem_append_right _ (List.mem_append_left _ (List.mem_of_getElem? (i := 221) rfl)))) rfl
theorem kw_121 : Cond.selects "GridFills$Filling" y_F_letterBy y_F_letterBy ∈ zz_tbl := zz_mem (List.mem_append_left _ (List.mem_of_getElem? (i := 16) rfl)) rfl
theorem kw_122 : Cond.fieldLink "GridFills$Filling" 57 "GridFills$Grid" "themeOf" "[I" ∈ zz_tbl := zz_mem (List.mem_append_right _ (List.mem_append_left _ (List.mem_of_getElem? (i := 89) rfl))) rfl
theorem kw_123 : Cond.fieldLink "GridFills$Filling" 60 "GridFills$Grid" "directionOf" "[I" ∈ zz_tbl := zz_mem (List.mem_append_right _ (List.mem_append_left _ (List.mem_of_getElem? (i := 83) rfl))) rfl
theorem kw_124 : Cond.fieldLink "GridFills$Filling" 63 "GridFills$Grid" "lengthOf" "[I" ∈ zz_tbl := zz_mem (List.mem_append_right _ (List.mem_append_left _ (List.mem_of_getElem? (i := 81) rfl))) rfl
theorem kw_125 : Cond.fieldLink "GridFills$Filling" 69 "GridFills$Grid" "givenAt" "[I" ∈ zz_tbl := zz_mem (List.mem_append_right _ (List.mem_append_left _ (List.mem_of_getElem? (i := 71) rfl))) rfl
theorem kw_126 : Cond.methodLink "GridFills$Filling" 72 y_F_agrees ∈ zz_tbl := zz_mem (List.mem_append_right _ (List.mem_append_right _ (List.mem_append_left _ (List.mem_of_getElem? (i := 239) rfl)))) rfl
theorem kw_127 : Cond.code y_F_agrees b_F_agrees 2 (some .boolean) ∈ zz_tbl := zz_mem (List.mem_append_right _ (List.mem_append_right _ (List.mem_append_right _ (List.mem_append_left _ (List.mem_of_getElem? (i := 1) rfl))))) rfl
theorem kw_128 : Cond.static y_F_agrees ∈ zz_tbl := zz_mem (List.mem_append_right _ (List.mem_append_right _ (List.mem_append_right _ (List.mem_append_left _ (List.mem_of_getElem? (i := 0) rfl))))) rfl
theorem kw_129 : Cond.methodLink "GridFills$Filling" 66 y_G_cellOf ∈ zz_tbl := zz_mem (List.mem_append_right _ (List.mem_append_right _ (List.mem_append_left _ (List.mem_of_getElem? (i := 238) rfl)))) rfl
theorem kw_130 : Cond.methodLink "GridFills$Filling" 53 y_F_holds ∈ zz_tbl := zz_mem (List.mem_append_right _ (List.mem_append_right _ (List.mem_append_left _ (List.mem_of_getElem? (i := 234) rfl)))) rfl
theorem kw_131 : Cond.code y_F_holds b_F_holds 6 (some .boolean) ∈ zz_tbl := zz_mem (List.mem_append_right _ (List.mem_append_right _ (List.mem_append_left _ (List.mem_of_getElem? (i := 237) rfl)))) rfl
theorem kw_132 : Cond.instanceMethod y_F_holds ∈ zz_tbl := zz_mem (List.mem_append_right _ (List.mem_append_right _ (List.mem_append_left _ (List.mem_of_getElem? (i := 236) rfl)))) rfl
theorem kw_133 : Cond.selects "GridFills$Filling" y_F_holds y_F_holds ∈ zz_tbl := zz_mem (List.mem_append_left _ (List.mem_of_getElem? (i := 17) rfl)) rfl
theorem kw_134 : Cond.fieldLink "GridFills$Search" 9 "GridFills$Search" "low" "[J" ∈ zz_tbl := zz_mem (List.mem_append_right _ (List.mem_append_left _ (List.mem_of_getElem? (i := 204) rfl))) rfl
theorem kw_135 : Cond.fieldLink "GridFills$Search" 26 "GridFills$Search" "list" "LGridFills$WordList;" ∈ zz_tbl := zz_mem (List.mem_append_right _ (List.mem_append_left _ (List.mem_of_getElem? (i := 202) rfl))) rfl
theorem kw_136 : Cond.fieldLink "GridFills$Search" 126 "GridFills$WordList" "lowOfKey" "[J" ∈ zz_tbl := zz_mem (List.mem_append_right _ (List.mem_append_left _ (List.mem_of_getElem? (i := 142) rfl))) rfl
theorem kw_137 : Cond.fieldLink "GridFills$Search" 15 "GridFills$Search" "high" "[J" ∈ zz_tbl := zz_mem (List.mem_append_right _ (List.mem_append_left _ (List.mem_of_getElem? (i := 205) rfl))) rfl
theorem kw_138 : Cond.fieldLink "GridFills$Search" 129 "GridFills$WordList" "highOfKey" "[J" ∈ zz_tbl := zz_mem (List.mem_append_right _ (List.mem_append_left _ (List.mem_of_getElem? (i := 144) rfl))) rfl
theorem kw_139 : Cond.fieldLink "GridFills$Search" 22 "GridFills$Search" "grid" "LGridFills$Grid;" ∈ zz_tbl := zz_mem (List.mem_append_right _ (List.mem_append_left _ (List.mem_of_getElem? (i := 201) rfl))) rfl
theorem kw_140 : Cond.fieldLink "GridFills$Search" 88 "GridFills$Grid" "lengthOf" "[I" ∈ zz_tbl := zz_mem (List.mem_append_right _ (List.mem_append_left _ (List.mem_of_getElem? (i := 79) rfl))) rfl
theorem kw_141 : Cond.fieldLink "GridFills$Search" 91 "GridFills$WordList" "lowOfLength" "[J" ∈ zz_tbl := zz_mem (List.mem_append_right _ (List.mem_append_left _ (List.mem_of_getElem? (i := 138) rfl))) rfl
theorem kw_142 : Cond.fieldLink "GridFills$Search" 96 "GridFills$WordList" "highOfLength" "[J" ∈ zz_tbl := zz_mem (List.mem_append_right _ (List.mem_append_left _ (List.mem_of_getElem? (i := 140) rfl))) rfl
theorem kw_143 : Cond.fieldLink "GridFills$Search" 113 "GridFills$Grid" "themeOf" "[I" ∈ zz_tbl := zz_mem (List.mem_append_right _ (List.mem_append_left _ (List.mem_of_getElem? (i := 87) rfl))) rfl
theorem kw_144 : Cond.fieldLink "GridFills$Search" 116 "GridFills$WordList" "rankOf" "[I" ∈ zz_tbl := zz_mem (List.mem_append_right _ (List.mem_append_left _ (List.mem_of_getElem? (i := 136) rfl))) rfl
theorem kw_145 : Cond.methodLink "GridFills$Search" 123 y_L_highBit ∈ zz_tbl := zz_mem (List.mem_append_right _ (List.mem_append_right _ (List.mem_append_left _ (List.mem_of_getElem? (i := 129) rfl)))) rfl
theorem kw_146 : Cond.methodLink "GridFills$Search" 119 y_L_lowBit ∈ zz_tbl := zz_mem (List.mem_append_right _ (List.mem_append_right _ (List.mem_append_left _ (List.mem_of_getElem? (i := 128) rfl)))) rfl
theorem kw_147 : Cond.fieldLink "GridFills$Search" 99 "GridFills$Grid" "givenAt" "[I" ∈ zz_tbl := zz_mem (List.mem_append_right _ (List.mem_append_left _ (List.mem_of_getElem? (i := 70) rfl))) rfl
theorem kw_148 : Cond.methodLink "GridFills$Search" 109 y_S_narrow ∈ zz_tbl := zz_mem (List.mem_append_right _ (List.mem_append_right _ (List.mem_append_left _ (List.mem_of_getElem? (i := 124) rfl)))) rfl
theorem kw_149 : Cond.code y_S_narrow b_S_narrow 3 none ∈ zz_tbl := zz_mem (List.mem_append_right _ (List.mem_append_right _ (List.mem_append_left _ (List.mem_of_getElem? (i := 127) rfl)))) rfl
theorem kw_150 : Cond.initialized "GridFills$Search" ∈ zz_tbl := zz_mem (List.mem_append_right _ (List.mem_append_left _ (List.mem_of_getElem? (i := 7) rfl))) rfl
theorem kw_151 : Cond.instanceMethod y_S_narrow ∈ zz_tbl := zz_mem (List.mem_append_right _ (List.mem_append_right _ (List.mem_append_left _ (List.mem_of_getElem? (i := 126) rfl)))) rfl
theorem kw_152 : Cond.selects "GridFills$Search" y_S_narrow y_S_narrow ∈ zz_tbl := zz_mem (List.mem_append_left _ (List.mem_of_getElem? (i := 9) rfl)) rfl
theorem kw_153 : Cond.methodLink "GridFills$Search" 106 y_L_keyOf ∈ zz_tbl := zz_mem (List.mem_append_right _ (List.mem_append_right _ (List.mem_append_left _ (List.mem_of_getElem? (i := 123) rfl)))) rfl
theorem kw_154 : Cond.methodLink "GridFills$Search" 102 y_G_cellOf ∈ zz_tbl := zz_mem (List.mem_append_right _ (List.mem_append_right _ (List.mem_append_left _ (List.mem_of_getElem? (i := 122) rfl)))) rfl
theorem kw_155 : Cond.methodLink "GridFills$Search" 70 y_JL_bitCount ∈ zz_tbl := zz_mem (List.mem_append_right _ (List.mem_append_right _ (List.mem_append_left _ (List.mem_of_getElem? (i := 130) rfl)))) rfl
theorem kw_156 : Cond.code y_JL_bitCount b_JL_bitCount 2 (some .int) ∈ zz_tbl := zz_mem (List.mem_append_right _ (List.mem_append_right _ (List.mem_append_left _ (List.mem_of_getElem? (i := 132) rfl)))) rfl
theorem kw_157 : Cond.initialized "java/lang/Long" ∈ zz_tbl := zz_mem (List.mem_append_right _ (List.mem_append_left _ (List.mem_of_getElem? (i := 10) rfl))) rfl
theorem kw_158 : Cond.static y_JL_bitCount ∈ zz_tbl := zz_mem (List.mem_append_right _ (List.mem_append_right _ (List.mem_append_left _ (List.mem_of_getElem? (i := 131) rfl)))) rfl
theorem kw_159 : Cond.methodLink "GridFills$Search" 66 y_S_openSlot ∈ zz_tbl := zz_mem (List.mem_append_right _ (List.mem_append_right _ (List.mem_append_left _ (List.mem_of_getElem? (i := 118) rfl)))) rfl
theorem kw_160 : Cond.code y_S_openSlot b_S_openSlot 5 none ∈ zz_tbl := zz_mem (List.mem_append_right _ (List.mem_append_right _ (List.mem_append_left _ (List.mem_of_getElem? (i := 121) rfl)))) rfl
theorem kw_161 : Cond.instanceMethod y_S_openSlot ∈ zz_tbl := zz_mem (List.mem_append_right _ (List.mem_append_right _ (List.mem_append_left _ (List.mem_of_getElem? (i := 120) rfl)))) rfl
theorem kw_162 : Cond.selects "GridFills$Search" y_S_openSlot y_S_openSlot ∈ zz_tbl := zz_mem (List.mem_append_left _ (List.mem_of_getElem? (i := 8) rfl)) rfl
theorem kw_163 : Cond.fieldLink "GridFills$Search" 80 "GridFills$Search" "usedHigh" "J" ∈ zz_tbl := zz_mem (List.mem_append_right _ (List.mem_append_left _ (List.mem_of_getElem? (i := 208) rfl))) rfl
theorem kw_164 : Cond.fieldLink "GridFills$Search" 76 "GridFills$Search" "usedLow" "J" ∈ zz_tbl := zz_mem (List.mem_append_right _ (List.mem_append_left _ (List.mem_of_getElem? (i := 207) rfl))) rfl
theorem kw_165 : Cond.fieldLink "GridFills$Search" 83 "GridFills$Grid" "slotCount" "I" ∈ zz_tbl := zz_mem (List.mem_append_right _ (List.mem_append_left _ (List.mem_of_getElem? (i := 74) rfl))) rfl
theorem kw_166 : Cond.fieldLink "GridFills$Search" 18 "GridFills$Search" "wordIn" "[I" ∈ zz_tbl := zz_mem (List.mem_append_right _ (List.mem_append_left _ (List.mem_of_getElem? (i := 206) rfl))) rfl
theorem kw_167 : Cond.fieldLink "GridFills$Search" 48 "GridFills$Search" "fillings" "I" ∈ zz_tbl := zz_mem (List.mem_append_right _ (List.mem_append_left _ (List.mem_of_getElem? (i := 215) rfl))) rfl
theorem kw_168 : Cond.fieldLink "GridFills$Search" 51 "GridFills$Search" "sum" "I" ∈ zz_tbl := zz_mem (List.mem_append_right _ (List.mem_append_left _ (List.mem_of_getElem? (i := 209) rfl))) rfl
theorem kw_169 : Cond.fieldLink "GridFills$Search" 30 "GridFills$Search" "found" "LGridFills$Filling;" ∈ zz_tbl := zz_mem (List.mem_append_right _ (List.mem_append_left _ (List.mem_of_getElem? (i := 203) rfl))) rfl
theorem kw_170 : Cond.fieldLink "GridFills$Search" 149 "GridFills$Filling" "total" "I" ∈ zz_tbl := zz_mem (List.mem_append_right _ (List.mem_append_left _ (List.mem_of_getElem? (i := 184) rfl))) rfl
theorem kw_171 : Cond.fieldLink "GridFills$Search" 38 "GridFills$Search" "wantsAll" "Z" ∈ zz_tbl := zz_mem (List.mem_append_right _ (List.mem_append_left _ (List.mem_of_getElem? (i := 211) rfl))) rfl
theorem kw_172 : Cond.methodLink "GridFills$Search" 152 y_F_keep ∈ zz_tbl := zz_mem (List.mem_append_right _ (List.mem_append_right _ (List.mem_append_left _ (List.mem_of_getElem? (i := 164) rfl)))) rfl
theorem kw_173 : Cond.code y_F_keep b_F_keep 3 none ∈ zz_tbl := zz_mem (List.mem_append_right _ (List.mem_append_right _ (List.mem_append_left _ (List.mem_of_getElem? (i := 167) rfl)))) rfl
theorem kw_174 : Cond.instanceMethod y_F_keep ∈ zz_tbl := zz_mem (List.mem_append_right _ (List.mem_append_right _ (List.mem_append_left _ (List.mem_of_getElem? (i := 165) rfl)))) rfl
theorem kw_175 : Cond.selects "GridFills$Filling" y_F_keep y_F_keep ∈ zz_tbl := zz_mem (List.mem_append_right _ (List.mem_append_right _ (List.mem_append_left _ (List.mem_of_getElem? (i := 166) rfl)))) rfl
theorem kw_176 : Cond.constantLong "GridFills$Search" 140 (-1) ∈ zz_tbl := zz_mem (List.mem_append_right _ (List.mem_append_right _ (List.mem_append_left _ (List.mem_of_getElem? (i := 173) rfl)))) rfl
theorem kw_177 : Cond.methodLink "GridFills$Search" 166 ⟨"java/lang/System", "arraycopy", "(Ljava/lang/Object;ILjava/lang/Object;II)V"⟩ ∈ zz_tbl := zz_mem (List.mem_append_right _ (List.mem_append_right _ (List.mem_append_left _ (List.mem_of_getElem? (i := 185) rfl)))) rfl
theorem kw_178 : Cond.fieldLink "GridFills$Search" 172 "GridFills$Grid" "directionOf" "[I" ∈ zz_tbl := zz_mem (List.mem_append_right _ (List.mem_append_left _ (List.mem_of_getElem? (i := 85) rfl))) rfl
theorem kw_179 : Cond.methodLink "GridFills$Search" 181 y_L_letterOf ∈ zz_tbl := zz_mem (List.mem_append_right _ (List.mem_append_right _ (List.mem_append_left _ (List.mem_of_getElem? (i := 194) rfl)))) rfl
theorem kw_180 : Cond.methodLink "GridFills$Search" 178 y_G_placeAt ∈ zz_tbl := zz_mem (List.mem_append_right _ (List.mem_append_right _ (List.mem_append_left _ (List.mem_of_getElem? (i := 190) rfl)))) rfl
theorem kw_181 : Cond.methodLink "GridFills$Search" 175 y_G_slotAt ∈ zz_tbl := zz_mem (List.mem_append_right _ (List.mem_append_right _ (List.mem_append_left _ (List.mem_of_getElem? (i := 186) rfl)))) rfl
theorem kw_182 : Cond.fieldLink "GridFills" 18 "GridFills" "grid" "LGridFills$Grid;" ∈ zz_tbl := zz_mem (List.mem_append_right _ (List.mem_append_right _ (List.mem_append_left _ (List.mem_of_getElem? (i := 6) rfl)))) rfl
theorem kw_183 : Cond.fieldLink "GridFills" 51 "GridFills$Grid" "isBlack" "[Z" ∈ zz_tbl := zz_mem (List.mem_append_right _ (List.mem_append_left _ (List.mem_of_getElem? (i := 67) rfl))) rfl
theorem kw_184 : Cond.fieldLink "GridFills" 34 "GridFills" "found" "LGridFills$Filling;" ∈ zz_tbl := zz_mem (List.mem_append_right _ (List.mem_append_right _ (List.mem_append_left _ (List.mem_of_getElem? (i := 8) rfl)))) rfl
theorem kw_185 : Cond.methodLink "GridFills" 59 y_F_forget ∈ zz_tbl := zz_mem (List.mem_append_right _ (List.mem_append_right _ (List.mem_append_left _ (List.mem_of_getElem? (i := 28) rfl)))) rfl
theorem kw_186 : Cond.code y_F_forget b_F_forget 1 none ∈ zz_tbl := zz_mem (List.mem_append_right _ (List.mem_append_right _ (List.mem_append_left _ (List.mem_of_getElem? (i := 31) rfl)))) rfl
theorem kw_187 : Cond.instanceMethod y_F_forget ∈ zz_tbl := zz_mem (List.mem_append_right _ (List.mem_append_right _ (List.mem_append_left _ (List.mem_of_getElem? (i := 29) rfl)))) rfl
theorem kw_188 : Cond.selects "GridFills$Filling" y_F_forget y_F_forget ∈ zz_tbl := zz_mem (List.mem_append_right _ (List.mem_append_right _ (List.mem_append_left _ (List.mem_of_getElem? (i := 30) rfl)))) rfl
theorem kw_189 : Cond.methodLink "GridFills" 55 y_G_paint ∈ zz_tbl := zz_mem (List.mem_append_right _ (List.mem_append_right _ (List.mem_append_left _ (List.mem_of_getElem? (i := 24) rfl)))) rfl
theorem kw_190 : Cond.code y_G_paint b_G_paint 3 none ∈ zz_tbl := zz_mem (List.mem_append_right _ (List.mem_append_right _ (List.mem_append_left _ (List.mem_of_getElem? (i := 27) rfl)))) rfl
theorem kw_191 : Cond.instanceMethod y_G_paint ∈ zz_tbl := zz_mem (List.mem_append_right _ (List.mem_append_right _ (List.mem_append_left _ (List.mem_of_getElem? (i := 25) rfl)))) rfl
theorem kw_192 : Cond.selects "GridFills$Grid" y_G_paint y_G_paint ∈ zz_tbl := zz_mem (List.mem_append_right _ (List.mem_append_right _ (List.mem_append_left _ (List.mem_of_getElem? (i := 26) rfl)))) rfl
theorem kw_193 : Cond.methodLink "GridFills" 47 y_G_cellAt ∈ zz_tbl := zz_mem (List.mem_append_right _ (List.mem_append_right _ (List.mem_append_left _ (List.mem_of_getElem? (i := 23) rfl)))) rfl
theorem kw_194 : Cond.fieldLink "GridFills" 25 "GridFills" "list" "LGridFills$WordList;" ∈ zz_tbl := zz_mem (List.mem_append_right _ (List.mem_append_right _ (List.mem_append_left _ (List.mem_of_getElem? (i := 7) rfl)))) rfl
theorem kw_195 : Cond.methodLink "GridFills" 66 y_L_collect ∈ zz_tbl := zz_mem (List.mem_append_right _ (List.mem_append_right _ (List.mem_append_left _ (List.mem_of_getElem? (i := 39) rfl)))) rfl
theorem kw_196 : Cond.code y_L_collect b_L_collect 2 (some .boolean) ∈ zz_tbl := zz_mem (List.mem_append_right _ (List.mem_append_right _ (List.mem_append_left _ (List.mem_of_getElem? (i := 42) rfl)))) rfl
theorem kw_197 : Cond.instanceMethod y_L_collect ∈ zz_tbl := zz_mem (List.mem_append_right _ (List.mem_append_right _ (List.mem_append_left _ (List.mem_of_getElem? (i := 40) rfl)))) rfl
theorem kw_198 : Cond.selects "GridFills$WordList" y_L_collect y_L_collect ∈ zz_tbl := zz_mem (List.mem_append_right _ (List.mem_append_right _ (List.mem_append_left _ (List.mem_of_getElem? (i := 41) rfl)))) rfl
theorem kw_199 : Cond.methodLink "GridFills" 62 y_X_isLetter ∈ zz_tbl := zz_mem (List.mem_append_right _ (List.mem_append_right _ (List.mem_append_left _ (List.mem_of_getElem? (i := 36) rfl)))) rfl
theorem kw_200 : Cond.code y_X_isLetter b_X_isLetter 1 (some .boolean) ∈ zz_tbl := zz_mem (List.mem_append_right _ (List.mem_append_right _ (List.mem_append_left _ (List.mem_of_getElem? (i := 38) rfl)))) rfl
theorem kw_201 : Cond.initialized "GridFills" ∈ zz_tbl := zz_mem (List.mem_append_right _ (List.mem_append_left _ (List.mem_of_getElem? (i := 1) rfl))) rfl
theorem kw_202 : Cond.static y_X_isLetter ∈ zz_tbl := zz_mem (List.mem_append_right _ (List.mem_append_right _ (List.mem_append_left _ (List.mem_of_getElem? (i := 37) rfl)))) rfl
theorem kw_203 : Cond.methodLink "GridFills" 72 y_L_dropCollected ∈ zz_tbl := zz_mem (List.mem_append_right _ (List.mem_append_right _ (List.mem_append_left _ (List.mem_of_getElem? (i := 86) rfl)))) rfl
theorem kw_204 : Cond.code y_L_dropCollected b_L_dropCollected 1 none ∈ zz_tbl := zz_mem (List.mem_append_right _ (List.mem_append_right _ (List.mem_append_left _ (List.mem_of_getElem? (i := 89) rfl)))) rfl
theorem kw_205 : Cond.instanceMethod y_L_dropCollected ∈ zz_tbl := zz_mem (List.mem_append_right _ (List.mem_append_right _ (List.mem_append_left _ (List.mem_of_getElem? (i := 87) rfl)))) rfl
theorem kw_206 : Cond.selects "GridFills$WordList" y_L_dropCollected y_L_dropCollected ∈ zz_tbl := zz_mem (List.mem_append_right _ (List.mem_append_right _ (List.mem_append_left _ (List.mem_of_getElem? (i := 88) rfl)))) rfl
theorem kw_207 : Cond.methodLink "GridFills" 69 y_L_wordFromCollected ∈ zz_tbl := zz_mem (List.mem_append_right _ (List.mem_append_right _ (List.mem_append_left _ (List.mem_of_getElem? (i := 47) rfl)))) rfl
theorem kw_208 : Cond.code y_L_wordFromCollected b_L_wordFromCollected 3 (some .int) ∈ zz_tbl := zz_mem (List.mem_append_right _ (List.mem_append_right _ (List.mem_append_left _ (List.mem_of_getElem? (i := 50) rfl)))) rfl
theorem kw_209 : Cond.instanceMethod y_L_wordFromCollected ∈ zz_tbl := zz_mem (List.mem_append_right _ (List.mem_append_right _ (List.mem_append_left _ (List.mem_of_getElem? (i := 48) rfl)))) rfl
theorem kw_210 : Cond.selects "GridFills$WordList" y_L_wordFromCollected y_L_wordFromCollected ∈ zz_tbl := zz_mem (List.mem_append_right _ (List.mem_append_right _ (List.mem_append_left _ (List.mem_of_getElem? (i := 49) rfl)))) rfl
theorem kw_211 : Cond.fieldLink "GridFills" 75 "GridFills$Grid" "givenAt" "[I" ∈ zz_tbl := zz_mem (List.mem_append_right _ (List.mem_append_left _ (List.mem_of_getElem? (i := 69) rfl))) rfl
theorem kw_212 : Cond.fieldLink "GridFills" 85 "GridFills$WordList" "lengthOf" "[I" ∈ zz_tbl := zz_mem (List.mem_append_right _ (List.mem_append_left _ (List.mem_of_getElem? (i := 130) rfl))) rfl
theorem kw_213 : Cond.fieldLink "GridFills" 88 "GridFills$Grid" "lengthOf" "[I" ∈ zz_tbl := zz_mem (List.mem_append_right _ (List.mem_append_left _ (List.mem_of_getElem? (i := 80) rfl))) rfl
theorem kw_214 : Cond.methodLink "GridFills" 82 y_L_hasWord ∈ zz_tbl := zz_mem (List.mem_append_right _ (List.mem_append_right _ (List.mem_append_left _ (List.mem_of_getElem? (i := 102) rfl)))) rfl
theorem kw_215 : Cond.code y_L_hasWord b_L_hasWord 2 (some .boolean) ∈ zz_tbl := zz_mem (List.mem_append_right _ (List.mem_append_right _ (List.mem_append_left _ (List.mem_of_getElem? (i := 105) rfl)))) rfl
theorem kw_216 : Cond.instanceMethod y_L_hasWord ∈ zz_tbl := zz_mem (List.mem_append_right _ (List.mem_append_right _ (List.mem_append_left _ (List.mem_of_getElem? (i := 103) rfl)))) rfl
theorem kw_217 : Cond.selects "GridFills$WordList" y_L_hasWord y_L_hasWord ∈ zz_tbl := zz_mem (List.mem_append_right _ (List.mem_append_right _ (List.mem_append_left _ (List.mem_of_getElem? (i := 104) rfl)))) rfl
theorem kw_218 : Cond.methodLink "GridFills" 79 y_G_hasSlot ∈ zz_tbl := zz_mem (List.mem_append_right _ (List.mem_append_right _ (List.mem_append_left _ (List.mem_of_getElem? (i := 98) rfl)))) rfl
theorem kw_219 : Cond.code y_G_hasSlot b_G_hasSlot 2 (some .boolean) ∈ zz_tbl := zz_mem (List.mem_append_right _ (List.mem_append_right _ (List.mem_append_left _ (List.mem_of_getElem? (i := 101) rfl)))) rfl
theorem kw_220 : Cond.instanceMethod y_G_hasSlot ∈ zz_tbl := zz_mem (List.mem_append_right _ (List.mem_append_right _ (List.mem_append_left _ (List.mem_of_getElem? (i := 99) rfl)))) rfl
theorem kw_221 : Cond.selects "GridFills$Grid" y_G_hasSlot y_G_hasSlot ∈ zz_tbl := zz_mem (List.mem_append_right _ (List.mem_append_right _ (List.mem_append_left _ (List.mem_of_getElem? (i := 100) rfl)))) rfl
theorem kw_222 : Cond.fieldLink "GridFills" 89 "GridFills$Grid" "themeOf" "[I" ∈ zz_tbl := zz_mem (List.mem_append_right _ (List.mem_append_left _ (List.mem_of_getElem? (i := 88) rfl))) rfl
theorem kw_223 : Cond.fieldLink "GridFills" 92 "GridFills$Grid" "slotCount" "I" ∈ zz_tbl := zz_mem (List.mem_append_right _ (List.mem_append_left _ (List.mem_of_getElem? (i := 75) rfl))) rfl
theorem kw_224 : Cond.fieldLink "GridFills" 96 "GridFills$Grid" "firstOf" "[I" ∈ zz_tbl := zz_mem (List.mem_append_right _ (List.mem_append_left _ (List.mem_of_getElem? (i := 77) rfl))) rfl
theorem kw_225 : Cond.fieldLink "GridFills" 99 "GridFills$Grid" "directionOf" "[I" ∈ zz_tbl := zz_mem (List.mem_append_right _ (List.mem_append_left _ (List.mem_of_getElem? (i := 84) rfl))) rfl
theorem kw_226 : Cond.fieldLink "GridFills" 43 "GridFills" "search" "LGridFills$Search;" ∈ zz_tbl := zz_mem (List.mem_append_right _ (List.mem_append_right _ (List.mem_append_left _ (List.mem_of_getElem? (i := 9) rfl)))) rfl
theorem kw_227 : Cond.methodLink "GridFills" 102 y_S_countAtStart ∈ zz_tbl := zz_mem (List.mem_append_right _ (List.mem_append_right _ (List.mem_append_left _ (List.mem_of_getElem? (i := 114) rfl)))) rfl
theorem kw_228 : Cond.code y_S_countAtStart b_S_countAtStart 2 (some .int) ∈ zz_tbl := zz_mem (List.mem_append_right _ (List.mem_append_right _ (List.mem_append_left _ (List.mem_of_getElem? (i := 117) rfl)))) rfl
theorem kw_229 : Cond.instanceMethod y_S_countAtStart ∈ zz_tbl := zz_mem (List.mem_append_right _ (List.mem_append_right _ (List.mem_append_left _ (List.mem_of_getElem? (i := 115) rfl)))) rfl
theorem kw_230 : Cond.selects "GridFills$Search" y_S_countAtStart y_S_countAtStart ∈ zz_tbl := zz_mem (List.mem_append_right _ (List.mem_append_right _ (List.mem_append_left _ (List.mem_of_getElem? (i := 116) rfl)))) rfl
theorem kw_231 : Cond.methodLink "GridFills" 105 y_F_wordOf ∈ zz_tbl := zz_mem (List.mem_append_right _ (List.mem_append_right _ (List.mem_append_left _ (List.mem_of_getElem? (i := 136) rfl)))) rfl
theorem kw_232 : Cond.code y_F_wordOf b_F_wordOf 2 (some .int) ∈ zz_tbl := zz_mem (List.mem_append_right _ (List.mem_append_right _ (List.mem_append_left _ (List.mem_of_getElem? (i := 139) rfl)))) rfl
theorem kw_233 : Cond.instanceMethod y_F_wordOf ∈ zz_tbl := zz_mem (List.mem_append_right _ (List.mem_append_right _ (List.mem_append_left _ (List.mem_of_getElem? (i := 137) rfl)))) rfl
theorem kw_234 : Cond.selects "GridFills$Filling" y_F_wordOf y_F_wordOf ∈ zz_tbl := zz_mem (List.mem_append_right _ (List.mem_append_right _ (List.mem_append_left _ (List.mem_of_getElem? (i := 138) rfl)))) rfl
theorem kw_235 : Cond.fieldLink "GridFills" 115 "GridFills$Search" "stepsMade" "I" ∈ zz_tbl := zz_mem (List.mem_append_right _ (List.mem_append_left _ (List.mem_of_getElem? (i := 214) rfl))) rfl
theorem kw_236 : Cond.fieldLink "GridFills" 118 "GridFills$Search" "fillings" "I" ∈ zz_tbl := zz_mem (List.mem_append_right _ (List.mem_append_left _ (List.mem_of_getElem? (i := 216) rfl))) rfl
theorem kw_237 : Cond.fieldLink "GridFills" 121 "GridFills$Filling" "total" "I" ∈ zz_tbl := zz_mem (List.mem_append_right _ (List.mem_append_left _ (List.mem_of_getElem? (i := 185) rfl))) rfl
theorem kw_238 : Cond.methodLink "GridFills" 124 y_F_letterAt ∈ zz_tbl := zz_mem (List.mem_append_right _ (List.mem_append_right _ (List.mem_append_left _ (List.mem_of_getElem? (i := 215) rfl)))) rfl
theorem kw_239 : Cond.code y_F_letterAt b_F_letterAt 3 (some .int) ∈ zz_tbl := zz_mem (List.mem_append_right _ (List.mem_append_right _ (List.mem_append_left _ (List.mem_of_getElem? (i := 218) rfl)))) rfl
theorem kw_240 : Cond.instanceMethod y_F_letterAt ∈ zz_tbl := zz_mem (List.mem_append_right _ (List.mem_append_right _ (List.mem_append_left _ (List.mem_of_getElem? (i := 216) rfl)))) rfl
theorem kw_241 : Cond.selects "GridFills$Filling" y_F_letterAt y_F_letterAt ∈ zz_tbl := zz_mem (List.mem_append_right _ (List.mem_append_right _ (List.mem_append_left _ (List.mem_of_getElem? (i := 217) rfl)))) rfl
theorem kw_242 : Cond.methodLink "GridFills" 127 y_F_firstFault ∈ zz_tbl := zz_mem (List.mem_append_right _ (List.mem_append_right _ (List.mem_append_left _ (List.mem_of_getElem? (i := 230) rfl)))) rfl
theorem kw_243 : Cond.code y_F_firstFault b_F_firstFault 2 (some .int) ∈ zz_tbl := zz_mem (List.mem_append_right _ (List.mem_append_right _ (List.mem_append_left _ (List.mem_of_getElem? (i := 233) rfl)))) rfl
theorem kw_244 : Cond.instanceMethod y_F_firstFault ∈ zz_tbl := zz_mem (List.mem_append_right _ (List.mem_append_right _ (List.mem_append_left _ (List.mem_of_getElem? (i := 231) rfl)))) rfl
theorem kw_245 : Cond.selects "GridFills$Filling" y_F_firstFault y_F_firstFault ∈ zz_tbl := zz_mem (List.mem_append_right _ (List.mem_append_right _ (List.mem_append_left _ (List.mem_of_getElem? (i := 232) rfl)))) rfl
theorem kw_246 : Cond.fieldLink "GridFills" 131 "GridFills$Grid" "width" "I" ∈ zz_tbl := zz_mem (List.mem_append_right _ (List.mem_append_left _ (List.mem_of_getElem? (i := 62) rfl))) rfl
theorem kw_247 : Cond.fieldLink "GridFills" 134 "GridFills$Grid" "height" "I" ∈ zz_tbl := zz_mem (List.mem_append_right _ (List.mem_append_left _ (List.mem_of_getElem? (i := 64) rfl))) rfl
theorem kw_248 : Cond.methodLink "GridFills" 137 y_G_looksTheSame ∈ zz_tbl := zz_mem (List.mem_append_right _ (List.mem_append_right _ (List.mem_append_right _ (List.mem_append_left _ (List.mem_of_getElem? (i := 6) rfl))))) rfl
theorem kw_249 : Cond.code y_G_looksTheSame b_G_looksTheSame 4 (some .boolean) ∈ zz_tbl := zz_mem (List.mem_append_right _ (List.mem_append_right _ (List.mem_append_right _ (List.mem_append_left _ (List.mem_of_getElem? (i := 9) rfl))))) rfl
theorem kw_250 : Cond.instanceMethod y_G_looksTheSame ∈ zz_tbl := zz_mem (List.mem_append_right _ (List.mem_append_right _ (List.mem_append_right _ (List.mem_append_left _ (List.mem_of_getElem? (i := 7) rfl))))) rfl
theorem kw_251 : Cond.selects "GridFills$Grid" y_G_looksTheSame y_G_looksTheSame ∈ zz_tbl := zz_mem (List.mem_append_right _ (List.mem_append_right _ (List.mem_append_right _ (List.mem_append_left _ (List.mem_of_getElem? (i := 8) rfl))))) rfl
theorem kw_252 : Cond.methodLink "GridFills" 140 y_G_countParts ∈ zz_tbl := zz_mem (List.mem_append_right _ (List.mem_append_right _ (List.mem_append_right _ (List.mem_append_left _ (List.mem_of_getElem? (i := 18) rfl))))) rfl
theorem kw_253 : Cond.code y_G_countParts b_G_countParts 4 (some .int) ∈ zz_tbl := zz_mem (List.mem_append_right _ (List.mem_append_right _ (List.mem_append_right _ (List.mem_append_left _ (List.mem_of_getElem? (i := 21) rfl))))) rfl
theorem kw_254 : Cond.instanceMethod y_G_countParts ∈ zz_tbl := zz_mem (List.mem_append_right _ (List.mem_append_right _ (List.mem_append_right _ (List.mem_append_left _ (List.mem_of_getElem? (i := 19) rfl))))) rfl
theorem kw_255 : Cond.selects "GridFills$Grid" y_G_countParts y_G_countParts ∈ zz_tbl := zz_mem (List.mem_append_right _ (List.mem_append_right _ (List.mem_append_right _ (List.mem_append_left _ (List.mem_of_getElem? (i := 20) rfl))))) rfl
theorem kw_256 : Cond.fieldLink "GridFills$Search" 45 "GridFills$Search" "stepsMade" "I" ∈ zz_tbl := zz_mem (List.mem_append_right _ (List.mem_append_left _ (List.mem_of_getElem? (i := 213) rfl))) rfl
theorem kw_257 : Cond.fieldLink "GridFills$Search" 34 "GridFills$Search" "mostSteps" "I" ∈ zz_tbl := zz_mem (List.mem_append_right _ (List.mem_append_left _ (List.mem_of_getElem? (i := 210) rfl))) rfl
theorem kw_258 : Cond.fieldLink "GridFills$Search" 156 "GridFills$WordList" "wordOfRank" "[I" ∈ zz_tbl := zz_mem (List.mem_append_right _ (List.mem_append_left _ (List.mem_of_getElem? (i := 134) rfl))) rfl
theorem kw_259 : Cond.fieldLink "GridFills$Search" 159 "GridFills$WordList" "scoreOf" "[I" ∈ zz_tbl := zz_mem (List.mem_append_right _ (List.mem_append_left _ (List.mem_of_getElem? (i := 132) rfl))) rfl
theorem kw_260 : Cond.methodLink "GridFills$Search" 62 y_S_fillFrom ∈ zz_tbl := zz_mem (List.mem_append_right _ (List.mem_append_right _ (List.mem_append_left _ (List.mem_of_getElem? (i := 156) rfl)))) rfl
theorem kw_261 : Cond.code y_S_fillFrom b_S_fillFrom 10 (some .boolean) ∈ zz_tbl := zz_mem (List.mem_append_right _ (List.mem_append_right _ (List.mem_append_left _ (List.mem_of_getElem? (i := 159) rfl)))) rfl
theorem kw_262 : Cond.instanceMethod y_S_fillFrom ∈ zz_tbl := zz_mem (List.mem_append_right _ (List.mem_append_right _ (List.mem_append_left _ (List.mem_of_getElem? (i := 158) rfl)))) rfl
theorem kw_263 : Cond.selects "GridFills$Search" y_S_fillFrom y_S_fillFrom ∈ zz_tbl := zz_mem (List.mem_append_left _ (List.mem_of_getElem? (i := 11) rfl)) rfl
theorem kw_264 : Cond.methodLink "GridFills$Search" 162 y_S_narrowCrossing ∈ zz_tbl := zz_mem (List.mem_append_right _ (List.mem_append_right _ (List.mem_append_left _ (List.mem_of_getElem? (i := 181) rfl)))) rfl
theorem kw_265 : Cond.code y_S_narrowCrossing b_S_narrowCrossing 11 none ∈ zz_tbl := zz_mem (List.mem_append_right _ (List.mem_append_right _ (List.mem_append_left _ (List.mem_of_getElem? (i := 184) rfl)))) rfl
theorem kw_266 : Cond.instanceMethod y_S_narrowCrossing ∈ zz_tbl := zz_mem (List.mem_append_right _ (List.mem_append_right _ (List.mem_append_left _ (List.mem_of_getElem? (i := 183) rfl)))) rfl
theorem kw_267 : Cond.selects "GridFills$Search" y_S_narrowCrossing y_S_narrowCrossing ∈ zz_tbl := zz_mem (List.mem_append_left _ (List.mem_of_getElem? (i := 15) rfl)) rfl
theorem kw_268 : Cond.fieldLink "GridFills$Search" 42 "GridFills$Search" "ranOut" "Z" ∈ zz_tbl := zz_mem (List.mem_append_right _ (List.mem_append_left _ (List.mem_of_getElem? (i := 212) rfl))) rfl
theorem kw_269 : Cond.methodLink "GridFills$Search" 136 y_S_slotWithFewest ∈ zz_tbl := zz_mem (List.mem_append_right _ (List.mem_append_right _ (List.mem_append_left _ (List.mem_of_getElem? (i := 169) rfl)))) rfl
theorem kw_270 : Cond.code y_S_slotWithFewest b_S_slotWithFewest 7 (some .int) ∈ zz_tbl := zz_mem (List.mem_append_right _ (List.mem_append_right _ (List.mem_append_left _ (List.mem_of_getElem? (i := 172) rfl)))) rfl
theorem kw_271 : Cond.instanceMethod y_S_slotWithFewest ∈ zz_tbl := zz_mem (List.mem_append_right _ (List.mem_append_right _ (List.mem_append_left _ (List.mem_of_getElem? (i := 171) rfl)))) rfl
theorem kw_272 : Cond.selects "GridFills$Search" y_S_slotWithFewest y_S_slotWithFewest ∈ zz_tbl := zz_mem (List.mem_append_left _ (List.mem_of_getElem? (i := 13) rfl)) rfl
theorem kw_273 : Cond.methodLink "GridFills$Search" 132 y_S_takeFilling ∈ zz_tbl := zz_mem (List.mem_append_right _ (List.mem_append_right _ (List.mem_append_left _ (List.mem_of_getElem? (i := 160) rfl)))) rfl
theorem kw_274 : Cond.code y_S_takeFilling b_S_takeFilling 1 (some .boolean) ∈ zz_tbl := zz_mem (List.mem_append_right _ (List.mem_append_right _ (List.mem_append_left _ (List.mem_of_getElem? (i := 163) rfl)))) rfl
theorem kw_275 : Cond.instanceMethod y_S_takeFilling ∈ zz_tbl := zz_mem (List.mem_append_right _ (List.mem_append_right _ (List.mem_append_left _ (List.mem_of_getElem? (i := 162) rfl)))) rfl
theorem kw_276 : Cond.selects "GridFills$Search" y_S_takeFilling y_S_takeFilling ∈ zz_tbl := zz_mem (List.mem_append_left _ (List.mem_of_getElem? (i := 12) rfl)) rfl
theorem kw_277 : Cond.methodLink "GridFills$Search" 145 y_S_tryWord ∈ zz_tbl := zz_mem (List.mem_append_right _ (List.mem_append_right _ (List.mem_append_left _ (List.mem_of_getElem? (i := 177) rfl)))) rfl
theorem kw_278 : Cond.code y_S_tryWord b_S_tryWord 6 (some .boolean) ∈ zz_tbl := zz_mem (List.mem_append_right _ (List.mem_append_right _ (List.mem_append_left _ (List.mem_of_getElem? (i := 180) rfl)))) rfl
theorem kw_279 : Cond.instanceMethod y_S_tryWord ∈ zz_tbl := zz_mem (List.mem_append_right _ (List.mem_append_right _ (List.mem_append_left _ (List.mem_of_getElem? (i := 179) rfl)))) rfl
theorem kw_280 : Cond.selects "GridFills$Search" y_S_tryWord y_S_tryWord ∈ zz_tbl := zz_mem (List.mem_append_left _ (List.mem_of_getElem? (i := 14) rfl)) rfl
theorem kw_281 : Cond.methodLink "GridFills$Search" 142 y_S_lowestBit ∈ zz_tbl := zz_mem (List.mem_append_right _ (List.mem_append_right _ (List.mem_append_left _ (List.mem_of_getElem? (i := 174) rfl)))) rfl
theorem kw_282 : Cond.code y_S_lowestBit b_S_lowestBit 2 (some .int) ∈ zz_tbl := zz_mem (List.mem_append_right _ (List.mem_append_right _ (List.mem_append_left _ (List.mem_of_getElem? (i := 176) rfl)))) rfl
theorem kw_283 : Cond.static y_S_lowestBit ∈ zz_tbl := zz_mem (List.mem_append_right _ (List.mem_append_right _ (List.mem_append_left _ (List.mem_of_getElem? (i := 175) rfl)))) rfl
theorem kw_284 : Cond.methodLink "GridFills$Search" 59 y_S_clearSlots ∈ zz_tbl := zz_mem (List.mem_append_right _ (List.mem_append_right _ (List.mem_append_left _ (List.mem_of_getElem? (i := 152) rfl)))) rfl
theorem kw_285 : Cond.code y_S_clearSlots b_S_clearSlots 2 none ∈ zz_tbl := zz_mem (List.mem_append_right _ (List.mem_append_right _ (List.mem_append_left _ (List.mem_of_getElem? (i := 155) rfl)))) rfl
theorem kw_286 : Cond.instanceMethod y_S_clearSlots ∈ zz_tbl := zz_mem (List.mem_append_right _ (List.mem_append_right _ (List.mem_append_left _ (List.mem_of_getElem? (i := 154) rfl)))) rfl
theorem kw_287 : Cond.selects "GridFills$Search" y_S_clearSlots y_S_clearSlots ∈ zz_tbl := zz_mem (List.mem_append_left _ (List.mem_of_getElem? (i := 10) rfl)) rfl
theorem kw_288 : Cond.methodLink "GridFills$Search" 54 y_F_forget ∈ zz_tbl := zz_mem (List.mem_append_right _ (List.mem_append_right _ (List.mem_append_left _ (List.mem_of_getElem? (i := 151) rfl)))) rfl
theorem kw_289 : Cond.methodLink "GridFills" 111 y_S_seek ∈ zz_tbl := zz_mem (List.mem_append_right _ (List.mem_append_right _ (List.mem_append_left _ (List.mem_of_getElem? (i := 147) rfl)))) rfl
theorem kw_290 : Cond.code y_S_seek b_S_seek 3 (some .int) ∈ zz_tbl := zz_mem (List.mem_append_right _ (List.mem_append_right _ (List.mem_append_left _ (List.mem_of_getElem? (i := 150) rfl)))) rfl
theorem kw_291 : Cond.instanceMethod y_S_seek ∈ zz_tbl := zz_mem (List.mem_append_right _ (List.mem_append_right _ (List.mem_append_left _ (List.mem_of_getElem? (i := 148) rfl)))) rfl
theorem kw_292 : Cond.selects "GridFills$Search" y_S_seek y_S_seek ∈ zz_tbl := zz_mem (List.mem_append_right _ (List.mem_append_right _ (List.mem_append_left _ (List.mem_of_getElem? (i := 149) rfl)))) rfl
theorem kw_293 : Cond.methodLink "GridFills" 108 y_X_isStepLimit ∈ zz_tbl := zz_mem (List.mem_append_right _ (List.mem_append_right _ (List.mem_append_left _ (List.mem_of_getElem? (i := 144) rfl)))) rfl
theorem kw_294 : Cond.code y_X_isStepLimit b_X_isStepLimit 1 (some .boolean) ∈ zz_tbl := zz_mem (List.mem_append_right _ (List.mem_append_right _ (List.mem_append_left _ (List.mem_of_getElem? (i := 146) rfl)))) rfl
theorem kw_295 : Cond.static y_X_isStepLimit ∈ zz_tbl := zz_mem (List.mem_append_right _ (List.mem_append_right _ (List.mem_append_left _ (List.mem_of_getElem? (i := 145) rfl)))) rfl
theorem kw_296 : Cond.fieldLink "GridFillsModel" 65 "GridFillsModel" "width" "I" ∈ zz_tbl := zz_mem (List.mem_append_right _ (List.mem_append_right _ (List.mem_append_right _ (List.mem_append_left _ (List.mem_of_getElem? (i := 48) rfl))))) rfl
theorem kw_297 : Cond.fieldLink "GridFillsModel" 69 "GridFillsModel" "height" "I" ∈ zz_tbl := zz_mem (List.mem_append_right _ (List.mem_append_right _ (List.mem_append_right _ (List.mem_append_left _ (List.mem_of_getElem? (i := 49) rfl))))) rfl
theorem kw_298 : Cond.fieldLink "GridFillsModel" 7 "GridFillsModel" "isBlack" "[Z" ∈ zz_tbl := zz_mem (List.mem_append_right _ (List.mem_append_right _ (List.mem_append_right _ (List.mem_append_left _ (List.mem_of_getElem? (i := 50) rfl))))) rfl
theorem kw_299 : Cond.methodLink "GridFillsModel" 78 y_M_isCell ∈ zz_tbl := zz_mem (List.mem_append_right _ (List.mem_append_right _ (List.mem_append_right _ (List.mem_append_left _ (List.mem_of_getElem? (i := 43) rfl))))) rfl
theorem kw_300 : Cond.code y_M_isCell b_M_isCell 3 (some .boolean) ∈ zz_tbl := zz_mem (List.mem_append_right _ (List.mem_append_right _ (List.mem_append_right _ (List.mem_append_left _ (List.mem_of_getElem? (i := 46) rfl))))) rfl
theorem kw_301 : Cond.initialized "GridFillsModel" ∈ zz_tbl := zz_mem (List.mem_append_right _ (List.mem_append_left _ (List.mem_of_getElem? (i := 8) rfl))) rfl
theorem kw_302 : Cond.instanceMethod y_M_isCell ∈ zz_tbl := zz_mem (List.mem_append_right _ (List.mem_append_right _ (List.mem_append_right _ (List.mem_append_left _ (List.mem_of_getElem? (i := 45) rfl))))) rfl
theorem kw_303 : Cond.selects "GridFillsModel" y_M_isCell y_M_isCell ∈ zz_tbl := zz_mem (List.mem_append_left _ (List.mem_of_getElem? (i := 22) rfl)) rfl
theorem kw_304 : Cond.fieldLink "GridFillsModel" 82 "GridFillsModel" "slots" "I" ∈ zz_tbl := zz_mem (List.mem_append_right _ (List.mem_append_right _ (List.mem_append_right _ (List.mem_append_left _ (List.mem_of_getElem? (i := 58) rfl))))) rfl
theorem kw_305 : Cond.fieldLink "GridFillsModel" 85 "GridFillsModel" "rightOnes" "I" ∈ zz_tbl := zz_mem (List.mem_append_right _ (List.mem_append_right _ (List.mem_append_right _ (List.mem_append_left _ (List.mem_of_getElem? (i := 63) rfl))))) rfl
theorem kw_306 : Cond.fieldLink "GridFillsModel" 29 "GridFillsModel" "begins" "[I" ∈ zz_tbl := zz_mem (List.mem_append_right _ (List.mem_append_right _ (List.mem_append_right _ (List.mem_append_left _ (List.mem_of_getElem? (i := 59) rfl))))) rfl
theorem kw_307 : Cond.fieldLink "GridFillsModel" 32 "GridFillsModel" "sizes" "[I" ∈ zz_tbl := zz_mem (List.mem_append_right _ (List.mem_append_right _ (List.mem_append_right _ (List.mem_append_left _ (List.mem_of_getElem? (i := 60) rfl))))) rfl
theorem kw_308 : Cond.fieldLink "GridFillsModel" 35 "GridFillsModel" "ways" "[I" ∈ zz_tbl := zz_mem (List.mem_append_right _ (List.mem_append_right _ (List.mem_append_right _ (List.mem_append_left _ (List.mem_of_getElem? (i := 61) rfl))))) rfl
theorem kw_309 : Cond.methodLink "GridFillsModel" 88 y_M_isOpen ∈ zz_tbl := zz_mem (List.mem_append_right _ (List.mem_append_right _ (List.mem_append_right _ (List.mem_append_left _ (List.mem_of_getElem? (i := 39) rfl))))) rfl
theorem kw_310 : Cond.code y_M_isOpen b_M_isOpen 3 (some .boolean) ∈ zz_tbl := zz_mem (List.mem_append_right _ (List.mem_append_right _ (List.mem_append_right _ (List.mem_append_left _ (List.mem_of_getElem? (i := 42) rfl))))) rfl
theorem kw_311 : Cond.instanceMethod y_M_isOpen ∈ zz_tbl := zz_mem (List.mem_append_right _ (List.mem_append_right _ (List.mem_append_right _ (List.mem_append_left _ (List.mem_of_getElem? (i := 41) rfl))))) rfl
theorem kw_312 : Cond.selects "GridFillsModel" y_M_isOpen y_M_isOpen ∈ zz_tbl := zz_mem (List.mem_append_left _ (List.mem_of_getElem? (i := 21) rfl)) rfl
theorem kw_313 : Cond.fieldLink "GridFillsModel" 38 "GridFillsModel" "themes" "[I" ∈ zz_tbl := zz_mem (List.mem_append_right _ (List.mem_append_right _ (List.mem_append_right _ (List.mem_append_left _ (List.mem_of_getElem? (i := 62) rfl))))) rfl
theorem kw_314 : Cond.fieldLink "GridFillsModel" 75 "GridFillsModel" "thrown" "I" ∈ zz_tbl := zz_mem (List.mem_append_right _ (List.mem_append_right _ (List.mem_append_right _ (List.mem_append_left _ (List.mem_of_getElem? (i := 47) rfl))))) rfl
theorem kw_315 : Cond.methodLink "GridFillsModel" 72 y_M_findSlots ∈ zz_tbl := zz_mem (List.mem_append_right _ (List.mem_append_right _ (List.mem_append_right _ (List.mem_append_left _ (List.mem_of_getElem? (i := 35) rfl))))) rfl
theorem kw_316 : Cond.code y_M_findSlots b_M_findSlots 7 none ∈ zz_tbl := zz_mem (List.mem_append_right _ (List.mem_append_right _ (List.mem_append_right _ (List.mem_append_left _ (List.mem_of_getElem? (i := 38) rfl))))) rfl
theorem kw_317 : Cond.instanceMethod y_M_findSlots ∈ zz_tbl := zz_mem (List.mem_append_right _ (List.mem_append_right _ (List.mem_append_right _ (List.mem_append_left _ (List.mem_of_getElem? (i := 37) rfl))))) rfl
theorem kw_318 : Cond.selects "GridFillsModel" y_M_findSlots y_M_findSlots ∈ zz_tbl := zz_mem (List.mem_append_left _ (List.mem_of_getElem? (i := 20) rfl)) rfl
theorem kw_319 : Cond.fieldLink "GridFillsModel" 91 "GridFillsModel" "isFound" "Z" ∈ zz_tbl := zz_mem (List.mem_append_right _ (List.mem_append_right _ (List.mem_append_right _ (List.mem_append_left _ (List.mem_of_getElem? (i := 66) rfl))))) rfl
theorem kw_320 : Cond.fieldLink "GridFillsModel" 13 "GridFillsModel" "givens" "[I" ∈ zz_tbl := zz_mem (List.mem_append_right _ (List.mem_append_right _ (List.mem_append_right _ (List.mem_append_left _ (List.mem_of_getElem? (i := 51) rfl))))) rfl
theorem kw_321 : Cond.fieldLink "GridFillsModel" 99 "GridFillsModel" "collected" "I" ∈ zz_tbl := zz_mem (List.mem_append_right _ (List.mem_append_right _ (List.mem_append_right _ (List.mem_append_left _ (List.mem_of_getElem? (i := 52) rfl))))) rfl
theorem kw_322 : Cond.fieldLink "GridFillsModel" 17 "GridFillsModel" "row" "[I" ∈ zz_tbl := zz_mem (List.mem_append_right _ (List.mem_append_right _ (List.mem_append_right _ (List.mem_append_left _ (List.mem_of_getElem? (i := 53) rfl))))) rfl
theorem kw_323 : Cond.methodLink "GridFillsModel" 95 y_M_isLetter ∈ zz_tbl := zz_mem (List.mem_append_right _ (List.mem_append_right _ (List.mem_append_right _ (List.mem_append_left _ (List.mem_of_getElem? (i := 140) rfl))))) rfl
theorem kw_324 : Cond.code y_M_isLetter b_M_isLetter 1 (some .boolean) ∈ zz_tbl := zz_mem (List.mem_append_right _ (List.mem_append_right _ (List.mem_append_right _ (List.mem_append_left _ (List.mem_of_getElem? (i := 142) rfl))))) rfl
theorem kw_325 : Cond.static y_M_isLetter ∈ zz_tbl := zz_mem (List.mem_append_right _ (List.mem_append_right _ (List.mem_append_right _ (List.mem_append_left _ (List.mem_of_getElem? (i := 141) rfl))))) rfl
theorem kw_326 : Cond.fieldLink "GridFillsModel" 20 "GridFillsModel" "lengths" "[I" ∈ zz_tbl := zz_mem (List.mem_append_right _ (List.mem_append_right _ (List.mem_append_right _ (List.mem_append_left _ (List.mem_of_getElem? (i := 55) rfl))))) rfl
theorem kw_327 : Cond.fieldLink "GridFillsModel" 23 "GridFillsModel" "letters" "[I" ∈ zz_tbl := zz_mem (List.mem_append_right _ (List.mem_append_right _ (List.mem_append_right _ (List.mem_append_left _ (List.mem_of_getElem? (i := 56) rfl))))) rfl
theorem kw_328 : Cond.fieldLink "GridFillsModel" 102 "GridFillsModel" "words" "I" ∈ zz_tbl := zz_mem (List.mem_append_right _ (List.mem_append_right _ (List.mem_append_right _ (List.mem_append_left _ (List.mem_of_getElem? (i := 54) rfl))))) rfl
theorem kw_329 : Cond.methodLink "GridFillsModel" 105 y_M_isRow ∈ zz_tbl := zz_mem (List.mem_append_right _ (List.mem_append_right _ (List.mem_append_right _ (List.mem_append_left _ (List.mem_of_getElem? (i := 151) rfl))))) rfl
theorem kw_330 : Cond.code y_M_isRow b_M_isRow 3 (some .boolean) ∈ zz_tbl := zz_mem (List.mem_append_right _ (List.mem_append_right _ (List.mem_append_right _ (List.mem_append_left _ (List.mem_of_getElem? (i := 154) rfl))))) rfl
theorem kw_331 : Cond.instanceMethod y_M_isRow ∈ zz_tbl := zz_mem (List.mem_append_right _ (List.mem_append_right _ (List.mem_append_right _ (List.mem_append_left _ (List.mem_of_getElem? (i := 153) rfl))))) rfl
theorem kw_332 : Cond.selects "GridFillsModel" y_M_isRow y_M_isRow ∈ zz_tbl := zz_mem (List.mem_append_left _ (List.mem_of_getElem? (i := 24) rfl)) rfl
theorem kw_333 : Cond.fieldLink "GridFillsModel" 26 "GridFillsModel" "scores" "[I" ∈ zz_tbl := zz_mem (List.mem_append_right _ (List.mem_append_right _ (List.mem_append_right _ (List.mem_append_left _ (List.mem_of_getElem? (i := 57) rfl))))) rfl
theorem kw_334 : Cond.methodLink "GridFillsModel" 108 y_M_enter ∈ zz_tbl := zz_mem (List.mem_append_right _ (List.mem_append_right _ (List.mem_append_right _ (List.mem_append_left _ (List.mem_of_getElem? (i := 147) rfl))))) rfl
theorem kw_335 : Cond.code y_M_enter b_M_enter 3 (some .int) ∈ zz_tbl := zz_mem (List.mem_append_right _ (List.mem_append_right _ (List.mem_append_right _ (List.mem_append_left _ (List.mem_of_getElem? (i := 150) rfl))))) rfl
theorem kw_336 : Cond.instanceMethod y_M_enter ∈ zz_tbl := zz_mem (List.mem_append_right _ (List.mem_append_right _ (List.mem_append_right _ (List.mem_append_left _ (List.mem_of_getElem? (i := 149) rfl))))) rfl
theorem kw_337 : Cond.selects "GridFillsModel" y_M_enter y_M_enter ∈ zz_tbl := zz_mem (List.mem_append_left _ (List.mem_of_getElem? (i := 23) rfl)) rfl
theorem kw_338 : Cond.methodLink "GridFillsModel" 112 y_M_isSlot ∈ zz_tbl := zz_mem (List.mem_append_right _ (List.mem_append_right _ (List.mem_append_right _ (List.mem_append_left _ (List.mem_of_getElem? (i := 163) rfl))))) rfl
theorem kw_339 : Cond.code y_M_isSlot b_M_isSlot 2 (some .boolean) ∈ zz_tbl := zz_mem (List.mem_append_right _ (List.mem_append_right _ (List.mem_append_right _ (List.mem_append_left _ (List.mem_of_getElem? (i := 166) rfl))))) rfl
theorem kw_340 : Cond.instanceMethod y_M_isSlot ∈ zz_tbl := zz_mem (List.mem_append_right _ (List.mem_append_right _ (List.mem_append_right _ (List.mem_append_left _ (List.mem_of_getElem? (i := 165) rfl))))) rfl
theorem kw_341 : Cond.selects "GridFillsModel" y_M_isSlot y_M_isSlot ∈ zz_tbl := zz_mem (List.mem_append_left _ (List.mem_of_getElem? (i := 25) rfl)) rfl
theorem kw_342 : Cond.fieldLink "GridFillsModel" 47 "GridFillsModel" "cells" "[I" ∈ zz_tbl := zz_mem (List.mem_append_right _ (List.mem_append_right _ (List.mem_append_right _ (List.mem_append_left _ (List.mem_of_getElem? (i := 69) rfl))))) rfl
theorem kw_343 : Cond.fieldLink "GridFillsModel" 41 "GridFillsModel" "now" "[I" ∈ zz_tbl := zz_mem (List.mem_append_right _ (List.mem_append_right _ (List.mem_append_right _ (List.mem_append_left _ (List.mem_of_getElem? (i := 64) rfl))))) rfl
theorem kw_344 : Cond.methodLink "GridFillsModel" 115 y_M_cellOf ∈ zz_tbl := zz_mem (List.mem_append_right _ (List.mem_append_right _ (List.mem_append_right _ (List.mem_append_left _ (List.mem_of_getElem? (i := 183) rfl))))) rfl
theorem kw_345 : Cond.code y_M_cellOf b_M_cellOf 3 (some .int) ∈ zz_tbl := zz_mem (List.mem_append_right _ (List.mem_append_right _ (List.mem_append_right _ (List.mem_append_left _ (List.mem_of_getElem? (i := 186) rfl))))) rfl
theorem kw_346 : Cond.instanceMethod y_M_cellOf ∈ zz_tbl := zz_mem (List.mem_append_right _ (List.mem_append_right _ (List.mem_append_right _ (List.mem_append_left _ (List.mem_of_getElem? (i := 185) rfl))))) rfl
theorem kw_347 : Cond.selects "GridFillsModel" y_M_cellOf y_M_cellOf ∈ zz_tbl := zz_mem (List.mem_append_left _ (List.mem_of_getElem? (i := 28) rfl)) rfl
theorem kw_348 : Cond.methodLink "GridFillsModel" 119 y_M_isUsed ∈ zz_tbl := zz_mem (List.mem_append_right _ (List.mem_append_right _ (List.mem_append_right _ (List.mem_append_left _ (List.mem_of_getElem? (i := 195) rfl))))) rfl
theorem kw_349 : Cond.code y_M_isUsed b_M_isUsed 3 (some .boolean) ∈ zz_tbl := zz_mem (List.mem_append_right _ (List.mem_append_right _ (List.mem_append_right _ (List.mem_append_left _ (List.mem_of_getElem? (i := 198) rfl))))) rfl
theorem kw_350 : Cond.instanceMethod y_M_isUsed ∈ zz_tbl := zz_mem (List.mem_append_right _ (List.mem_append_right _ (List.mem_append_right _ (List.mem_append_left _ (List.mem_of_getElem? (i := 197) rfl))))) rfl
theorem kw_351 : Cond.selects "GridFillsModel" y_M_isUsed y_M_isUsed ∈ zz_tbl := zz_mem (List.mem_append_left _ (List.mem_of_getElem? (i := 31) rfl)) rfl
theorem kw_352 : Cond.methodLink "GridFillsModel" 122 y_M_mayHave ∈ zz_tbl := zz_mem (List.mem_append_right _ (List.mem_append_right _ (List.mem_append_right _ (List.mem_append_left _ (List.mem_of_getElem? (i := 191) rfl))))) rfl
theorem kw_353 : Cond.code y_M_mayHave b_M_mayHave 5 (some .boolean) ∈ zz_tbl := zz_mem (List.mem_append_right _ (List.mem_append_right _ (List.mem_append_right _ (List.mem_append_left _ (List.mem_of_getElem? (i := 194) rfl))))) rfl
theorem kw_354 : Cond.instanceMethod y_M_mayHave ∈ zz_tbl := zz_mem (List.mem_append_right _ (List.mem_append_right _ (List.mem_append_right _ (List.mem_append_left _ (List.mem_of_getElem? (i := 193) rfl))))) rfl
theorem kw_355 : Cond.selects "GridFillsModel" y_M_mayHave y_M_mayHave ∈ zz_tbl := zz_mem (List.mem_append_left _ (List.mem_of_getElem? (i := 30) rfl)) rfl
theorem kw_356 : Cond.methodLink "GridFillsModel" 131 y_M_countFor ∈ zz_tbl := zz_mem (List.mem_append_right _ (List.mem_append_right _ (List.mem_append_right _ (List.mem_append_left _ (List.mem_of_getElem? (i := 187) rfl))))) rfl
theorem kw_357 : Cond.code y_M_countFor b_M_countFor 4 (some .int) ∈ zz_tbl := zz_mem (List.mem_append_right _ (List.mem_append_right _ (List.mem_append_right _ (List.mem_append_left _ (List.mem_of_getElem? (i := 190) rfl))))) rfl
theorem kw_358 : Cond.instanceMethod y_M_countFor ∈ zz_tbl := zz_mem (List.mem_append_right _ (List.mem_append_right _ (List.mem_append_right _ (List.mem_append_left _ (List.mem_of_getElem? (i := 189) rfl))))) rfl
theorem kw_359 : Cond.selects "GridFillsModel" y_M_countFor y_M_countFor ∈ zz_tbl := zz_mem (List.mem_append_left _ (List.mem_of_getElem? (i := 29) rfl)) rfl
theorem kw_360 : Cond.methodLink "GridFillsModel" 128 y_M_spell ∈ zz_tbl := zz_mem (List.mem_append_right _ (List.mem_append_right _ (List.mem_append_right _ (List.mem_append_left _ (List.mem_of_getElem? (i := 179) rfl))))) rfl
theorem kw_361 : Cond.code y_M_spell b_M_spell 3 none ∈ zz_tbl := zz_mem (List.mem_append_right _ (List.mem_append_right _ (List.mem_append_right _ (List.mem_append_left _ (List.mem_of_getElem? (i := 182) rfl))))) rfl
theorem kw_362 : Cond.instanceMethod y_M_spell ∈ zz_tbl := zz_mem (List.mem_append_right _ (List.mem_append_right _ (List.mem_append_right _ (List.mem_append_left _ (List.mem_of_getElem? (i := 181) rfl))))) rfl
theorem kw_363 : Cond.selects "GridFillsModel" y_M_spell y_M_spell ∈ zz_tbl := zz_mem (List.mem_append_left _ (List.mem_of_getElem? (i := 27) rfl)) rfl
theorem kw_364 : Cond.methodLink "GridFillsModel" 125 y_M_clearNow ∈ zz_tbl := zz_mem (List.mem_append_right _ (List.mem_append_right _ (List.mem_append_right _ (List.mem_append_left _ (List.mem_of_getElem? (i := 175) rfl))))) rfl
theorem kw_365 : Cond.code y_M_clearNow b_M_clearNow 2 none ∈ zz_tbl := zz_mem (List.mem_append_right _ (List.mem_append_right _ (List.mem_append_right _ (List.mem_append_left _ (List.mem_of_getElem? (i := 178) rfl))))) rfl
theorem kw_366 : Cond.instanceMethod y_M_clearNow ∈ zz_tbl := zz_mem (List.mem_append_right _ (List.mem_append_right _ (List.mem_append_right _ (List.mem_append_left _ (List.mem_of_getElem? (i := 177) rfl))))) rfl
theorem kw_367 : Cond.selects "GridFillsModel" y_M_clearNow y_M_clearNow ∈ zz_tbl := zz_mem (List.mem_append_left _ (List.mem_of_getElem? (i := 26) rfl)) rfl
theorem kw_368 : Cond.fieldLink "GridFillsModel" 44 "GridFillsModel" "found" "[I" ∈ zz_tbl := zz_mem (List.mem_append_right _ (List.mem_append_right _ (List.mem_append_right _ (List.mem_append_left _ (List.mem_of_getElem? (i := 65) rfl))))) rfl
theorem kw_369 : Cond.fieldLink "GridFillsModel" 50 "GridFillsModel" "slotAt" "[I" ∈ zz_tbl := zz_mem (List.mem_append_right _ (List.mem_append_right _ (List.mem_append_right _ (List.mem_append_left _ (List.mem_of_getElem? (i := 70) rfl))))) rfl
theorem kw_370 : Cond.fieldLink "GridFillsModel" 56 "GridFillsModel" "triedAt" "[I" ∈ zz_tbl := zz_mem (List.mem_append_right _ (List.mem_append_right _ (List.mem_append_right _ (List.mem_append_left _ (List.mem_of_getElem? (i := 72) rfl))))) rfl
theorem kw_371 : Cond.fieldLink "GridFillsModel" 53 "GridFillsModel" "manyAt" "[I" ∈ zz_tbl := zz_mem (List.mem_append_right _ (List.mem_append_right _ (List.mem_append_right _ (List.mem_append_left _ (List.mem_of_getElem? (i := 71) rfl))))) rfl
theorem kw_372 : Cond.fieldLink "GridFillsModel" 59 "GridFillsModel" "choices" "[I" ∈ zz_tbl := zz_mem (List.mem_append_right _ (List.mem_append_right _ (List.mem_append_right _ (List.mem_append_left _ (List.mem_of_getElem? (i := 73) rfl))))) rfl
theorem kw_373 : Cond.methodLink "GridFillsModel" 134 y_M_isBefore ∈ zz_tbl := zz_mem (List.mem_append_right _ (List.mem_append_right _ (List.mem_append_right _ (List.mem_append_left _ (List.mem_of_getElem? (i := 211) rfl))))) rfl
theorem kw_374 : Cond.code y_M_isBefore b_M_isBefore 3 (some .boolean) ∈ zz_tbl := zz_mem (List.mem_append_right _ (List.mem_append_right _ (List.mem_append_right _ (List.mem_append_left _ (List.mem_of_getElem? (i := 214) rfl))))) rfl
theorem kw_375 : Cond.instanceMethod y_M_isBefore ∈ zz_tbl := zz_mem (List.mem_append_right _ (List.mem_append_right _ (List.mem_append_right _ (List.mem_append_left _ (List.mem_of_getElem? (i := 213) rfl))))) rfl
theorem kw_376 : Cond.selects "GridFillsModel" y_M_isBefore y_M_isBefore ∈ zz_tbl := zz_mem (List.mem_append_left _ (List.mem_of_getElem? (i := 34) rfl)) rfl
theorem kw_377 : Cond.fieldLink "GridFillsModel" 140 "GridFillsModel" "many" "I" ∈ zz_tbl := zz_mem (List.mem_append_right _ (List.mem_append_right _ (List.mem_append_right _ (List.mem_append_left _ (List.mem_of_getElem? (i := 68) rfl))))) rfl
theorem kw_378 : Cond.fieldLink "GridFillsModel" 137 "GridFillsModel" "steps" "I" ∈ zz_tbl := zz_mem (List.mem_append_right _ (List.mem_append_right _ (List.mem_append_right _ (List.mem_append_left _ (List.mem_of_getElem? (i := 67) rfl))))) rfl
theorem kw_379 : Cond.methodLink "GridFillsModel" 146 y_M_sumNow ∈ zz_tbl := zz_mem (List.mem_append_right _ (List.mem_append_right _ (List.mem_append_right _ (List.mem_append_left _ (List.mem_of_getElem? (i := 215) rfl))))) rfl
theorem kw_380 : Cond.code y_M_sumNow b_M_sumNow 3 (some .int) ∈ zz_tbl := zz_mem (List.mem_append_right _ (List.mem_append_right _ (List.mem_append_right _ (List.mem_append_left _ (List.mem_of_getElem? (i := 218) rfl))))) rfl
theorem kw_381 : Cond.instanceMethod y_M_sumNow ∈ zz_tbl := zz_mem (List.mem_append_right _ (List.mem_append_right _ (List.mem_append_right _ (List.mem_append_left _ (List.mem_of_getElem? (i := 217) rfl))))) rfl
theorem kw_382 : Cond.selects "GridFillsModel" y_M_sumNow y_M_sumNow ∈ zz_tbl := zz_mem (List.mem_append_left _ (List.mem_of_getElem? (i := 35) rfl)) rfl
theorem kw_383 : Cond.methodLink "GridFillsModel" 143 y_M_open ∈ zz_tbl := zz_mem (List.mem_append_right _ (List.mem_append_right _ (List.mem_append_right _ (List.mem_append_left _ (List.mem_of_getElem? (i := 207) rfl))))) rfl
theorem kw_384 : Cond.code y_M_open b_M_open 7 (some .boolean) ∈ zz_tbl := zz_mem (List.mem_append_right _ (List.mem_append_right _ (List.mem_append_right _ (List.mem_append_left _ (List.mem_of_getElem? (i := 210) rfl))))) rfl
theorem kw_385 : Cond.instanceMethod y_M_open ∈ zz_tbl := zz_mem (List.mem_append_right _ (List.mem_append_right _ (List.mem_append_right _ (List.mem_append_left _ (List.mem_of_getElem? (i := 209) rfl))))) rfl
theorem kw_386 : Cond.selects "GridFillsModel" y_M_open y_M_open ∈ zz_tbl := zz_mem (List.mem_append_left _ (List.mem_of_getElem? (i := 33) rfl)) rfl
theorem kw_387 : Cond.methodLink "GridFillsModel" 150 y_M_search ∈ zz_tbl := zz_mem (List.mem_append_right _ (List.mem_append_right _ (List.mem_append_right _ (List.mem_append_left _ (List.mem_of_getElem? (i := 203) rfl))))) rfl
theorem kw_388 : Cond.code y_M_search b_M_search 7 (some .int) ∈ zz_tbl := zz_mem (List.mem_append_right _ (List.mem_append_right _ (List.mem_append_right _ (List.mem_append_left _ (List.mem_of_getElem? (i := 206) rfl))))) rfl
theorem kw_389 : Cond.instanceMethod y_M_search ∈ zz_tbl := zz_mem (List.mem_append_right _ (List.mem_append_right _ (List.mem_append_right _ (List.mem_append_left _ (List.mem_of_getElem? (i := 205) rfl))))) rfl
theorem kw_390 : Cond.selects "GridFillsModel" y_M_search y_M_search ∈ zz_tbl := zz_mem (List.mem_append_left _ (List.mem_of_getElem? (i := 32) rfl)) rfl
theorem kw_391 : Cond.fieldLink "GridFillsModel" 62 "GridFillsModel" "seen" "[Z" ∈ zz_tbl := zz_mem (List.mem_append_right _ (List.mem_append_right _ (List.mem_append_right _ (List.mem_append_left _ (List.mem_of_getElem? (i := 74) rfl))))) rfl
theorem kw_392 : Cond.methodLink "GridFillsModel" 154 y_M_isSeen ∈ zz_tbl := zz_mem (List.mem_append_right _ (List.mem_append_right _ (List.mem_append_right _ (List.mem_append_right _ (List.mem_of_getElem? (i := 11) rfl))))) rfl
theorem kw_393 : Cond.code y_M_isSeen b_M_isSeen 3 (some .boolean) ∈ zz_tbl := zz_mem (List.mem_append_right _ (List.mem_append_right _ (List.mem_append_right _ (List.mem_append_right _ (List.mem_of_getElem? (i := 14) rfl))))) rfl
theorem kw_394 : Cond.instanceMethod y_M_isSeen ∈ zz_tbl := zz_mem (List.mem_append_right _ (List.mem_append_right _ (List.mem_append_right _ (List.mem_append_right _ (List.mem_of_getElem? (i := 13) rfl))))) rfl
theorem kw_395 : Cond.selects "GridFillsModel" y_M_isSeen y_M_isSeen ∈ zz_tbl := zz_mem (List.mem_append_left _ (List.mem_of_getElem? (i := 36) rfl)) rfl
end
section
theorem d_JL_bitCount_0 : decode b_JL_bitCount 0 = .ok (.lload_n 0, 1) := by decide +kernel
theorem d_JL_bitCount_1 : decode b_JL_bitCount 1 = .ok (.lload_n 0, 1) := by decide +kernel
theorem d_JL_bitCount_2 : decode b_JL_bitCount 2 = .ok (.iconst 1, 1) := by decide +kernel
theorem d_JL_bitCount_3 : decode b_JL_bitCount 3 = .ok (.lushr, 1) := by decide +kernel
theorem d_JL_bitCount_4 : decode b_JL_bitCount 4 = .ok (.ldc2_w 314, 3) := by decide +kernel
theorem d_JL_bitCount_7 : decode b_JL_bitCount 7 = .ok (.land, 1) := by decide +kernel
theorem d_JL_bitCount_8 : decode b_JL_bitCount 8 = .ok (.lsub, 1) := by decide +kernel
theorem d_JL_bitCount_9 : decode b_JL_bitCount 9 = .ok (.lstore_n 0, 1) := by decide +kernel
theorem d_JL_bitCount_10 : decode b_JL_bitCount 10 = .ok (.lload_n 0, 1) := by decide +kernel
theorem d_JL_bitCount_11 : decode b_JL_bitCount 11 = .ok (.ldc2_w 316, 3) := by decide +kernel
theorem d_JL_bitCount_14 : decode b_JL_bitCount 14 = .ok (.land, 1) := by decide +kernel
theorem d_JL_bitCount_15 : decode b_JL_bitCount 15 = .ok (.lload_n 0, 1) := by decide +kernel
theorem d_JL_bitCount_16 : decode b_JL_bitCount 16 = .ok (.iconst 2, 1) := by decide +kernel
theorem d_JL_bitCount_17 : decode b_JL_bitCount 17 = .ok (.lushr, 1) := by decide +kernel
theorem d_JL_bitCount_18 : decode b_JL_bitCount 18 = .ok (.ldc2_w 316, 3) := by decide +kernel
theorem d_JL_bitCount_21 : decode b_JL_bitCount 21 = .ok (.land, 1) := by decide +kernel
theorem d_JL_bitCount_22 : decode b_JL_bitCount 22 = .ok (.ladd, 1) := by decide +kernel
theorem d_JL_bitCount_23 : decode b_JL_bitCount 23 = .ok (.lstore_n 0, 1) := by decide +kernel
theorem d_JL_bitCount_24 : decode b_JL_bitCount 24 = .ok (.lload_n 0, 1) := by decide +kernel
theorem d_JL_bitCount_25 : decode b_JL_bitCount 25 = .ok (.lload_n 0, 1) := by decide +kernel
theorem d_JL_bitCount_26 : decode b_JL_bitCount 26 = .ok (.iconst 4, 1) := by decide +kernel
theorem d_JL_bitCount_27 : decode b_JL_bitCount 27 = .ok (.lushr, 1) := by decide +kernel
theorem d_JL_bitCount_28 : decode b_JL_bitCount 28 = .ok (.ladd, 1) := by decide +kernel
theorem d_JL_bitCount_29 : decode b_JL_bitCount 29 = .ok (.ldc2_w 318, 3) := by decide +kernel
theorem d_JL_bitCount_32 : decode b_JL_bitCount 32 = .ok (.land, 1) := by decide +kernel
theorem d_JL_bitCount_33 : decode b_JL_bitCount 33 = .ok (.lstore_n 0, 1) := by decide +kernel
theorem d_JL_bitCount_34 : decode b_JL_bitCount 34 = .ok (.lload_n 0, 1) := by decide +kernel
theorem d_JL_bitCount_35 : decode b_JL_bitCount 35 = .ok (.lload_n 0, 1) := by decide +kernel
theorem d_JL_bitCount_36 : decode b_JL_bitCount 36 = .ok (.bipush 8, 2) := by decide +kernel
theorem d_JL_bitCount_38 : decode b_JL_bitCount 38 = .ok (.lushr, 1) := by decide +kernel
theorem d_JL_bitCount_39 : decode b_JL_bitCount 39 = .ok (.ladd, 1) := by decide +kernel
theorem d_JL_bitCount_40 : decode b_JL_bitCount 40 = .ok (.lstore_n 0, 1) := by decide +kernel
theorem d_JL_bitCount_41 : decode b_JL_bitCount 41 = .ok (.lload_n 0, 1) := by decide +kernel
theorem d_JL_bitCount_42 : decode b_JL_bitCount 42 = .ok (.lload_n 0, 1) := by decide +kernel
theorem d_JL_bitCount_43 : decode b_JL_bitCount 43 = .ok (.bipush 16, 2) := by decide +kernel
theorem d_JL_bitCount_45 : decode b_JL_bitCount 45 = .ok (.lushr, 1) := by decide +kernel
theorem d_JL_bitCount_46 : decode b_JL_bitCount 46 = .ok (.ladd, 1) := by decide +kernel
theorem d_JL_bitCount_47 : decode b_JL_bitCount 47 = .ok (.lstore_n 0, 1) := by decide +kernel
theorem d_JL_bitCount_48 : decode b_JL_bitCount 48 = .ok (.lload_n 0, 1) := by decide +kernel
theorem d_JL_bitCount_49 : decode b_JL_bitCount 49 = .ok (.lload_n 0, 1) := by decide +kernel
theorem d_JL_bitCount_50 : decode b_JL_bitCount 50 = .ok (.bipush 32, 2) := by decide +kernel
theorem d_JL_bitCount_52 : decode b_JL_bitCount 52 = .ok (.lushr, 1) := by decide +kernel
theorem d_JL_bitCount_53 : decode b_JL_bitCount 53 = .ok (.ladd, 1) := by decide +kernel
theorem d_JL_bitCount_54 : decode b_JL_bitCount 54 = .ok (.lstore_n 0, 1) := by decide +kernel
theorem d_JL_bitCount_55 : decode b_JL_bitCount 55 = .ok (.lload_n 0, 1) := by decide +kernel
theorem d_JL_bitCount_56 : decode b_JL_bitCount 56 = .ok (.l2i, 1) := by decide +kernel
theorem d_JL_bitCount_57 : decode b_JL_bitCount 57 = .ok (.bipush 127, 2) := by decide +kernel
theorem d_JL_bitCount_59 : decode b_JL_bitCount 59 = .ok (.iand, 1) := by decide +kernel
theorem d_JL_bitCount_60 : decode b_JL_bitCount 60 = .ok (.ireturn, 1) := by decide +kernel
theorem d_JA_fillI_0 : decode b_JA_fillI 0 = .ok (.iconst 0, 1) := by decide +kernel
theorem d_JA_fillI_1 : decode b_JA_fillI 1 = .ok (.istore_n 2, 1) := by decide +kernel
theorem d_JA_fillI_2 : decode b_JA_fillI 2 = .ok (.aload_n 0, 1) := by decide +kernel
theorem d_JA_fillI_3 : decode b_JA_fillI 3 = .ok (.arraylength, 1) := by decide +kernel
theorem d_JA_fillI_4 : decode b_JA_fillI 4 = .ok (.istore_n 3, 1) := by decide +kernel
theorem d_JA_fillI_5 : decode b_JA_fillI 5 = .ok (.iload_n 2, 1) := by decide +kernel
theorem d_JA_fillI_6 : decode b_JA_fillI 6 = .ok (.iload_n 3, 1) := by decide +kernel
theorem d_JA_fillI_7 : decode b_JA_fillI 7 = .ok (.if_icmp .ge 13, 3) := by decide +kernel
theorem d_JA_fillI_10 : decode b_JA_fillI 10 = .ok (.aload_n 0, 1) := by decide +kernel
theorem d_JA_fillI_11 : decode b_JA_fillI 11 = .ok (.iload_n 2, 1) := by decide +kernel
theorem d_JA_fillI_12 : decode b_JA_fillI 12 = .ok (.iload_n 1, 1) := by decide +kernel
theorem d_JA_fillI_13 : decode b_JA_fillI 13 = .ok (.iastore, 1) := by decide +kernel
theorem d_JA_fillI_14 : decode b_JA_fillI 14 = .ok (.iinc 2 1, 3) := by decide +kernel
theorem d_JA_fillI_17 : decode b_JA_fillI 17 = .ok (.goto (-12), 3) := by decide +kernel
theorem d_JA_fillI_20 : decode b_JA_fillI 20 = .ok (.return_, 1) := by decide +kernel
theorem d_JA_fillJ_0 : decode b_JA_fillJ 0 = .ok (.iconst 0, 1) := by decide +kernel
theorem d_JA_fillJ_1 : decode b_JA_fillJ 1 = .ok (.istore_n 3, 1) := by decide +kernel
theorem d_JA_fillJ_2 : decode b_JA_fillJ 2 = .ok (.aload_n 0, 1) := by decide +kernel
theorem d_JA_fillJ_3 : decode b_JA_fillJ 3 = .ok (.arraylength, 1) := by decide +kernel
theorem d_JA_fillJ_4 : decode b_JA_fillJ 4 = .ok (.istore 4, 2) := by decide +kernel
theorem d_JA_fillJ_6 : decode b_JA_fillJ 6 = .ok (.iload_n 3, 1) := by decide +kernel
theorem d_JA_fillJ_7 : decode b_JA_fillJ 7 = .ok (.iload 4, 2) := by decide +kernel
theorem d_JA_fillJ_9 : decode b_JA_fillJ 9 = .ok (.if_icmp .ge 13, 3) := by decide +kernel
theorem d_JA_fillJ_12 : decode b_JA_fillJ 12 = .ok (.aload_n 0, 1) := by decide +kernel
theorem d_JA_fillJ_13 : decode b_JA_fillJ 13 = .ok (.iload_n 3, 1) := by decide +kernel
theorem d_JA_fillJ_14 : decode b_JA_fillJ 14 = .ok (.lload_n 1, 1) := by decide +kernel
theorem d_JA_fillJ_15 : decode b_JA_fillJ 15 = .ok (.lastore, 1) := by decide +kernel
theorem d_JA_fillJ_16 : decode b_JA_fillJ 16 = .ok (.iinc 3 1, 3) := by decide +kernel
theorem d_JA_fillJ_19 : decode b_JA_fillJ 19 = .ok (.goto (-13), 3) := by decide +kernel
theorem d_JA_fillJ_22 : decode b_JA_fillJ 22 = .ok (.return_, 1) := by decide +kernel
theorem d_G_cellAt_0 : decode b_G_cellAt 0 = .ok (.iload_n 1, 1) := by decide +kernel
theorem d_G_cellAt_1 : decode b_G_cellAt 1 = .ok (.ifCond .lt 34, 3) := by decide +kernel
theorem d_G_cellAt_4 : decode b_G_cellAt 4 = .ok (.iload_n 1, 1) := by decide +kernel
theorem d_G_cellAt_5 : decode b_G_cellAt 5 = .ok (.aload_n 0, 1) := by decide +kernel
theorem d_G_cellAt_6 : decode b_G_cellAt 6 = .ok (.getfield 40, 3) := by decide +kernel
theorem d_G_cellAt_9 : decode b_G_cellAt 9 = .ok (.if_icmp .ge 26, 3) := by decide +kernel
theorem d_G_cellAt_12 : decode b_G_cellAt 12 = .ok (.iload_n 2, 1) := by decide +kernel
theorem d_G_cellAt_13 : decode b_G_cellAt 13 = .ok (.ifCond .lt 22, 3) := by decide +kernel
theorem d_G_cellAt_16 : decode b_G_cellAt 16 = .ok (.iload_n 2, 1) := by decide +kernel
theorem d_G_cellAt_17 : decode b_G_cellAt 17 = .ok (.aload_n 0, 1) := by decide +kernel
theorem d_G_cellAt_18 : decode b_G_cellAt 18 = .ok (.getfield 44, 3) := by decide +kernel
theorem d_G_cellAt_21 : decode b_G_cellAt 21 = .ok (.if_icmp .ge 14, 3) := by decide +kernel
theorem d_G_cellAt_24 : decode b_G_cellAt 24 = .ok (.iload_n 1, 1) := by decide +kernel
theorem d_G_cellAt_25 : decode b_G_cellAt 25 = .ok (.aload_n 0, 1) := by decide +kernel
theorem d_G_cellAt_26 : decode b_G_cellAt 26 = .ok (.getfield 40, 3) := by decide +kernel
theorem d_G_cellAt_29 : decode b_G_cellAt 29 = .ok (.iload_n 2, 1) := by decide +kernel
theorem d_G_cellAt_30 : decode b_G_cellAt 30 = .ok (.imul, 1) := by decide +kernel
theorem d_G_cellAt_31 : decode b_G_cellAt 31 = .ok (.iadd, 1) := by decide +kernel
theorem d_G_cellAt_32 : decode b_G_cellAt 32 = .ok (.goto 4, 3) := by decide +kernel
theorem d_G_cellAt_35 : decode b_G_cellAt 35 = .ok (.iconst (-1), 1) := by decide +kernel
theorem d_G_cellAt_36 : decode b_G_cellAt 36 = .ok (.ireturn, 1) := by decide +kernel
theorem d_G_hasSlot_0 : decode b_G_hasSlot 0 = .ok (.iload_n 1, 1) := by decide +kernel
theorem d_G_hasSlot_1 : decode b_G_hasSlot 1 = .ok (.ifCond .lt 15, 3) := by decide +kernel
theorem d_G_hasSlot_4 : decode b_G_hasSlot 4 = .ok (.iload_n 1, 1) := by decide +kernel
theorem d_G_hasSlot_5 : decode b_G_hasSlot 5 = .ok (.aload_n 0, 1) := by decide +kernel
theorem d_G_hasSlot_6 : decode b_G_hasSlot 6 = .ok (.getfield 53, 3) := by decide +kernel
theorem d_G_hasSlot_9 : decode b_G_hasSlot 9 = .ok (.if_icmp .ge 7, 3) := by decide +kernel
theorem d_G_hasSlot_12 : decode b_G_hasSlot 12 = .ok (.iconst 1, 1) := by decide +kernel
theorem d_G_hasSlot_13 : decode b_G_hasSlot 13 = .ok (.goto 4, 3) := by decide +kernel
theorem d_G_hasSlot_16 : decode b_G_hasSlot 16 = .ok (.iconst 0, 1) := by decide +kernel
theorem d_G_hasSlot_17 : decode b_G_hasSlot 17 = .ok (.ireturn, 1) := by decide +kernel
theorem d_G_cellOf_0 : decode b_G_cellOf 0 = .ok (.aload_n 0, 1) := by decide +kernel
theorem d_G_cellOf_1 : decode b_G_cellOf 1 = .ok (.getfield 19, 3) := by decide +kernel
theorem d_G_cellOf_4 : decode b_G_cellOf 4 = .ok (.iload_n 1, 1) := by decide +kernel
theorem d_G_cellOf_5 : decode b_G_cellOf 5 = .ok (.iaload, 1) := by decide +kernel
theorem d_G_cellOf_6 : decode b_G_cellOf 6 = .ok (.iload_n 2, 1) := by decide +kernel
theorem d_G_cellOf_7 : decode b_G_cellOf 7 = .ok (.aload_n 0, 1) := by decide +kernel
theorem d_G_cellOf_8 : decode b_G_cellOf 8 = .ok (.getfield 25, 3) := by decide +kernel
theorem d_G_cellOf_11 : decode b_G_cellOf 11 = .ok (.iload_n 1, 1) := by decide +kernel
theorem d_G_cellOf_12 : decode b_G_cellOf 12 = .ok (.iaload, 1) := by decide +kernel
theorem d_G_cellOf_13 : decode b_G_cellOf 13 = .ok (.ifCond .ne 7, 3) := by decide +kernel
theorem d_G_cellOf_16 : decode b_G_cellOf 16 = .ok (.iconst 1, 1) := by decide +kernel
theorem d_G_cellOf_17 : decode b_G_cellOf 17 = .ok (.goto 7, 3) := by decide +kernel
theorem d_G_cellOf_20 : decode b_G_cellOf 20 = .ok (.aload_n 0, 1) := by decide +kernel
theorem d_G_cellOf_21 : decode b_G_cellOf 21 = .ok (.getfield 40, 3) := by decide +kernel
theorem d_G_cellOf_24 : decode b_G_cellOf 24 = .ok (.imul, 1) := by decide +kernel
theorem d_G_cellOf_25 : decode b_G_cellOf 25 = .ok (.iadd, 1) := by decide +kernel
theorem d_G_cellOf_26 : decode b_G_cellOf 26 = .ok (.ireturn, 1) := by decide +kernel
theorem d_G_slotAt_0 : decode b_G_slotAt 0 = .ok (.aload_n 0, 1) := by decide +kernel
theorem d_G_slotAt_1 : decode b_G_slotAt 1 = .ok (.getfield 31, 3) := by decide +kernel
theorem d_G_slotAt_4 : decode b_G_slotAt 4 = .ok (.iload_n 2, 1) := by decide +kernel
theorem d_G_slotAt_5 : decode b_G_slotAt 5 = .ok (.bipush 36, 2) := by decide +kernel
theorem d_G_slotAt_7 : decode b_G_slotAt 7 = .ok (.imul, 1) := by decide +kernel
theorem d_G_slotAt_8 : decode b_G_slotAt 8 = .ok (.iload_n 1, 1) := by decide +kernel
theorem d_G_slotAt_9 : decode b_G_slotAt 9 = .ok (.iadd, 1) := by decide +kernel
theorem d_G_slotAt_10 : decode b_G_slotAt 10 = .ok (.iaload, 1) := by decide +kernel
theorem d_G_slotAt_11 : decode b_G_slotAt 11 = .ok (.ireturn, 1) := by decide +kernel
theorem d_G_placeAt_0 : decode b_G_placeAt 0 = .ok (.aload_n 0, 1) := by decide +kernel
theorem d_G_placeAt_1 : decode b_G_placeAt 1 = .ok (.getfield 34, 3) := by decide +kernel
theorem d_G_placeAt_4 : decode b_G_placeAt 4 = .ok (.iload_n 2, 1) := by decide +kernel
theorem d_G_placeAt_5 : decode b_G_placeAt 5 = .ok (.bipush 36, 2) := by decide +kernel
theorem d_G_placeAt_7 : decode b_G_placeAt 7 = .ok (.imul, 1) := by decide +kernel
theorem d_G_placeAt_8 : decode b_G_placeAt 8 = .ok (.iload_n 1, 1) := by decide +kernel
theorem d_G_placeAt_9 : decode b_G_placeAt 9 = .ok (.iadd, 1) := by decide +kernel
theorem d_G_placeAt_10 : decode b_G_placeAt 10 = .ok (.iaload, 1) := by decide +kernel
theorem d_G_placeAt_11 : decode b_G_placeAt 11 = .ok (.ireturn, 1) := by decide +kernel
theorem d_G_isOpen_0 : decode b_G_isOpen 0 = .ok (.aload_n 0, 1) := by decide +kernel
theorem d_G_isOpen_1 : decode b_G_isOpen 1 = .ok (.iload_n 1, 1) := by decide +kernel
theorem d_G_isOpen_2 : decode b_G_isOpen 2 = .ok (.iload_n 2, 1) := by decide +kernel
theorem d_G_isOpen_3 : decode b_G_isOpen 3 = .ok (.invokevirtual 70, 3) := by decide +kernel
theorem d_G_isOpen_6 : decode b_G_isOpen 6 = .ok (.istore_n 3, 1) := by decide +kernel
theorem d_G_isOpen_7 : decode b_G_isOpen 7 = .ok (.iload_n 3, 1) := by decide +kernel
theorem d_G_isOpen_8 : decode b_G_isOpen 8 = .ok (.iconst (-1), 1) := by decide +kernel
theorem d_G_isOpen_9 : decode b_G_isOpen 9 = .ok (.if_icmp .eq 16, 3) := by decide +kernel
theorem d_G_isOpen_12 : decode b_G_isOpen 12 = .ok (.aload_n 0, 1) := by decide +kernel
theorem d_G_isOpen_13 : decode b_G_isOpen 13 = .ok (.getfield 9, 3) := by decide +kernel
theorem d_G_isOpen_16 : decode b_G_isOpen 16 = .ok (.iload_n 3, 1) := by decide +kernel
theorem d_G_isOpen_17 : decode b_G_isOpen 17 = .ok (.baload, 1) := by decide +kernel
theorem d_G_isOpen_18 : decode b_G_isOpen 18 = .ok (.ifCond .ne 7, 3) := by decide +kernel
theorem d_G_isOpen_21 : decode b_G_isOpen 21 = .ok (.iconst 1, 1) := by decide +kernel
theorem d_G_isOpen_22 : decode b_G_isOpen 22 = .ok (.goto 4, 3) := by decide +kernel
theorem d_G_isOpen_25 : decode b_G_isOpen 25 = .ok (.iconst 0, 1) := by decide +kernel
theorem d_G_isOpen_26 : decode b_G_isOpen 26 = .ok (.ireturn, 1) := by decide +kernel
theorem d_G_markCells_0 : decode b_G_markCells 0 = .ok (.iconst 0, 1) := by decide +kernel
theorem d_G_markCells_1 : decode b_G_markCells 1 = .ok (.istore_n 2, 1) := by decide +kernel
theorem d_G_markCells_2 : decode b_G_markCells 2 = .ok (.iload_n 2, 1) := by decide +kernel
theorem d_G_markCells_3 : decode b_G_markCells 3 = .ok (.aload_n 0, 1) := by decide +kernel
theorem d_G_markCells_4 : decode b_G_markCells 4 = .ok (.getfield 22, 3) := by decide +kernel
theorem d_G_markCells_7 : decode b_G_markCells 7 = .ok (.iload_n 1, 1) := by decide +kernel
theorem d_G_markCells_8 : decode b_G_markCells 8 = .ok (.iaload, 1) := by decide +kernel
theorem d_G_markCells_9 : decode b_G_markCells 9 = .ok (.if_icmp .ge 40, 3) := by decide +kernel
theorem d_G_markCells_12 : decode b_G_markCells 12 = .ok (.aload_n 0, 1) := by decide +kernel
theorem d_G_markCells_13 : decode b_G_markCells 13 = .ok (.getfield 25, 3) := by decide +kernel
theorem d_G_markCells_16 : decode b_G_markCells 16 = .ok (.iload_n 1, 1) := by decide +kernel
theorem d_G_markCells_17 : decode b_G_markCells 17 = .ok (.iaload, 1) := by decide +kernel
theorem d_G_markCells_18 : decode b_G_markCells 18 = .ok (.bipush 36, 2) := by decide +kernel
theorem d_G_markCells_20 : decode b_G_markCells 20 = .ok (.imul, 1) := by decide +kernel
theorem d_G_markCells_21 : decode b_G_markCells 21 = .ok (.aload_n 0, 1) := by decide +kernel
theorem d_G_markCells_22 : decode b_G_markCells 22 = .ok (.iload_n 1, 1) := by decide +kernel
theorem d_G_markCells_23 : decode b_G_markCells 23 = .ok (.iload_n 2, 1) := by decide +kernel
theorem d_G_markCells_24 : decode b_G_markCells 24 = .ok (.invokevirtual 78, 3) := by decide +kernel
theorem d_G_markCells_27 : decode b_G_markCells 27 = .ok (.iadd, 1) := by decide +kernel
theorem d_G_markCells_28 : decode b_G_markCells 28 = .ok (.istore_n 3, 1) := by decide +kernel
theorem d_G_markCells_29 : decode b_G_markCells 29 = .ok (.aload_n 0, 1) := by decide +kernel
theorem d_G_markCells_30 : decode b_G_markCells 30 = .ok (.getfield 31, 3) := by decide +kernel
theorem d_G_markCells_33 : decode b_G_markCells 33 = .ok (.iload_n 3, 1) := by decide +kernel
theorem d_G_markCells_34 : decode b_G_markCells 34 = .ok (.iload_n 1, 1) := by decide +kernel
theorem d_G_markCells_35 : decode b_G_markCells 35 = .ok (.iastore, 1) := by decide +kernel
theorem d_G_markCells_36 : decode b_G_markCells 36 = .ok (.aload_n 0, 1) := by decide +kernel
theorem d_G_markCells_37 : decode b_G_markCells 37 = .ok (.getfield 34, 3) := by decide +kernel
theorem d_G_markCells_40 : decode b_G_markCells 40 = .ok (.iload_n 3, 1) := by decide +kernel
theorem d_G_markCells_41 : decode b_G_markCells 41 = .ok (.iload_n 2, 1) := by decide +kernel
theorem d_G_markCells_42 : decode b_G_markCells 42 = .ok (.iastore, 1) := by decide +kernel
theorem d_G_markCells_43 : decode b_G_markCells 43 = .ok (.iinc 2 1, 3) := by decide +kernel
theorem d_G_markCells_46 : decode b_G_markCells 46 = .ok (.goto (-44), 3) := by decide +kernel
theorem d_G_markCells_49 : decode b_G_markCells 49 = .ok (.return_, 1) := by decide +kernel
theorem d_G_addSlotFrom_0 : decode b_G_addSlotFrom 0 = .ok (.iload_n 3, 1) := by decide +kernel
theorem d_G_addSlotFrom_1 : decode b_G_addSlotFrom 1 = .ok (.ifCond .ne 7, 3) := by decide +kernel
theorem d_G_addSlotFrom_4 : decode b_G_addSlotFrom 4 = .ok (.iconst 1, 1) := by decide +kernel
theorem d_G_addSlotFrom_5 : decode b_G_addSlotFrom 5 = .ok (.goto 4, 3) := by decide +kernel
theorem d_G_addSlotFrom_8 : decode b_G_addSlotFrom 8 = .ok (.iconst 0, 1) := by decide +kernel
theorem d_G_addSlotFrom_9 : decode b_G_addSlotFrom 9 = .ok (.istore 4, 2) := by decide +kernel
theorem d_G_addSlotFrom_11 : decode b_G_addSlotFrom 11 = .ok (.iconst 1, 1) := by decide +kernel
theorem d_G_addSlotFrom_12 : decode b_G_addSlotFrom 12 = .ok (.iload 4, 2) := by decide +kernel
theorem d_G_addSlotFrom_14 : decode b_G_addSlotFrom 14 = .ok (.isub, 1) := by decide +kernel
theorem d_G_addSlotFrom_15 : decode b_G_addSlotFrom 15 = .ok (.istore 5, 2) := by decide +kernel
theorem d_G_addSlotFrom_17 : decode b_G_addSlotFrom 17 = .ok (.aload_n 0, 1) := by decide +kernel
theorem d_G_addSlotFrom_18 : decode b_G_addSlotFrom 18 = .ok (.iload_n 1, 1) := by decide +kernel
theorem d_G_addSlotFrom_19 : decode b_G_addSlotFrom 19 = .ok (.iload 4, 2) := by decide +kernel
theorem d_G_addSlotFrom_21 : decode b_G_addSlotFrom 21 = .ok (.isub, 1) := by decide +kernel
theorem d_G_addSlotFrom_22 : decode b_G_addSlotFrom 22 = .ok (.iload_n 2, 1) := by decide +kernel
theorem d_G_addSlotFrom_23 : decode b_G_addSlotFrom 23 = .ok (.iload 5, 2) := by decide +kernel
theorem d_G_addSlotFrom_25 : decode b_G_addSlotFrom 25 = .ok (.isub, 1) := by decide +kernel
theorem d_G_addSlotFrom_26 : decode b_G_addSlotFrom 26 = .ok (.invokevirtual 66, 3) := by decide +kernel
theorem d_G_addSlotFrom_29 : decode b_G_addSlotFrom 29 = .ok (.ifCond .eq 4, 3) := by decide +kernel
theorem d_G_addSlotFrom_32 : decode b_G_addSlotFrom 32 = .ok (.return_, 1) := by decide +kernel
theorem d_G_addSlotFrom_33 : decode b_G_addSlotFrom 33 = .ok (.iconst 0, 1) := by decide +kernel
theorem d_G_addSlotFrom_34 : decode b_G_addSlotFrom 34 = .ok (.istore 6, 2) := by decide +kernel
theorem d_G_addSlotFrom_36 : decode b_G_addSlotFrom 36 = .ok (.iload 6, 2) := by decide +kernel
theorem d_G_addSlotFrom_38 : decode b_G_addSlotFrom 38 = .ok (.bipush 6, 2) := by decide +kernel
theorem d_G_addSlotFrom_40 : decode b_G_addSlotFrom 40 = .ok (.if_icmp .ge 30, 3) := by decide +kernel
theorem d_G_addSlotFrom_43 : decode b_G_addSlotFrom 43 = .ok (.aload_n 0, 1) := by decide +kernel
theorem d_G_addSlotFrom_44 : decode b_G_addSlotFrom 44 = .ok (.iload_n 1, 1) := by decide +kernel
theorem d_G_addSlotFrom_45 : decode b_G_addSlotFrom 45 = .ok (.iload 6, 2) := by decide +kernel
theorem d_G_addSlotFrom_47 : decode b_G_addSlotFrom 47 = .ok (.iload 4, 2) := by decide +kernel
theorem d_G_addSlotFrom_49 : decode b_G_addSlotFrom 49 = .ok (.imul, 1) := by decide +kernel
theorem d_G_addSlotFrom_50 : decode b_G_addSlotFrom 50 = .ok (.iadd, 1) := by decide +kernel
theorem d_G_addSlotFrom_51 : decode b_G_addSlotFrom 51 = .ok (.iload_n 2, 1) := by decide +kernel
theorem d_G_addSlotFrom_52 : decode b_G_addSlotFrom 52 = .ok (.iload 6, 2) := by decide +kernel
theorem d_G_addSlotFrom_54 : decode b_G_addSlotFrom 54 = .ok (.iload 5, 2) := by decide +kernel
theorem d_G_addSlotFrom_56 : decode b_G_addSlotFrom 56 = .ok (.imul, 1) := by decide +kernel
theorem d_G_addSlotFrom_57 : decode b_G_addSlotFrom 57 = .ok (.iadd, 1) := by decide +kernel
theorem d_G_addSlotFrom_58 : decode b_G_addSlotFrom 58 = .ok (.invokevirtual 66, 3) := by decide +kernel
theorem d_G_addSlotFrom_61 : decode b_G_addSlotFrom 61 = .ok (.ifCond .eq 9, 3) := by decide +kernel
theorem d_G_addSlotFrom_64 : decode b_G_addSlotFrom 64 = .ok (.iinc 6 1, 3) := by decide +kernel
theorem d_G_addSlotFrom_67 : decode b_G_addSlotFrom 67 = .ok (.goto (-31), 3) := by decide +kernel
theorem d_G_addSlotFrom_70 : decode b_G_addSlotFrom 70 = .ok (.iload 6, 2) := by decide +kernel
theorem d_G_addSlotFrom_72 : decode b_G_addSlotFrom 72 = .ok (.iconst 2, 1) := by decide +kernel
theorem d_G_addSlotFrom_73 : decode b_G_addSlotFrom 73 = .ok (.if_icmp .lt 66, 3) := by decide +kernel
theorem d_G_addSlotFrom_76 : decode b_G_addSlotFrom 76 = .ok (.aload_n 0, 1) := by decide +kernel
theorem d_G_addSlotFrom_77 : decode b_G_addSlotFrom 77 = .ok (.getfield 53, 3) := by decide +kernel
theorem d_G_addSlotFrom_80 : decode b_G_addSlotFrom 80 = .ok (.bipush 24, 2) := by decide +kernel
theorem d_G_addSlotFrom_82 : decode b_G_addSlotFrom 82 = .ok (.if_icmp .ge 57, 3) := by decide +kernel
theorem d_G_addSlotFrom_85 : decode b_G_addSlotFrom 85 = .ok (.aload_n 0, 1) := by decide +kernel
theorem d_G_addSlotFrom_86 : decode b_G_addSlotFrom 86 = .ok (.getfield 19, 3) := by decide +kernel
theorem d_G_addSlotFrom_89 : decode b_G_addSlotFrom 89 = .ok (.aload_n 0, 1) := by decide +kernel
theorem d_G_addSlotFrom_90 : decode b_G_addSlotFrom 90 = .ok (.getfield 53, 3) := by decide +kernel
theorem d_G_addSlotFrom_93 : decode b_G_addSlotFrom 93 = .ok (.aload_n 0, 1) := by decide +kernel
theorem d_G_addSlotFrom_94 : decode b_G_addSlotFrom 94 = .ok (.iload_n 1, 1) := by decide +kernel
theorem d_G_addSlotFrom_95 : decode b_G_addSlotFrom 95 = .ok (.iload_n 2, 1) := by decide +kernel
theorem d_G_addSlotFrom_96 : decode b_G_addSlotFrom 96 = .ok (.invokevirtual 70, 3) := by decide +kernel
theorem d_G_addSlotFrom_99 : decode b_G_addSlotFrom 99 = .ok (.iastore, 1) := by decide +kernel
theorem d_G_addSlotFrom_100 : decode b_G_addSlotFrom 100 = .ok (.aload_n 0, 1) := by decide +kernel
theorem d_G_addSlotFrom_101 : decode b_G_addSlotFrom 101 = .ok (.getfield 22, 3) := by decide +kernel
theorem d_G_addSlotFrom_104 : decode b_G_addSlotFrom 104 = .ok (.aload_n 0, 1) := by decide +kernel
theorem d_G_addSlotFrom_105 : decode b_G_addSlotFrom 105 = .ok (.getfield 53, 3) := by decide +kernel
theorem d_G_addSlotFrom_108 : decode b_G_addSlotFrom 108 = .ok (.iload 6, 2) := by decide +kernel
theorem d_G_addSlotFrom_110 : decode b_G_addSlotFrom 110 = .ok (.iastore, 1) := by decide +kernel
theorem d_G_addSlotFrom_111 : decode b_G_addSlotFrom 111 = .ok (.aload_n 0, 1) := by decide +kernel
theorem d_G_addSlotFrom_112 : decode b_G_addSlotFrom 112 = .ok (.getfield 25, 3) := by decide +kernel
theorem d_G_addSlotFrom_115 : decode b_G_addSlotFrom 115 = .ok (.aload_n 0, 1) := by decide +kernel
theorem d_G_addSlotFrom_116 : decode b_G_addSlotFrom 116 = .ok (.getfield 53, 3) := by decide +kernel
theorem d_G_addSlotFrom_119 : decode b_G_addSlotFrom 119 = .ok (.iload_n 3, 1) := by decide +kernel
theorem d_G_addSlotFrom_120 : decode b_G_addSlotFrom 120 = .ok (.iastore, 1) := by decide +kernel
theorem d_G_addSlotFrom_121 : decode b_G_addSlotFrom 121 = .ok (.aload_n 0, 1) := by decide +kernel
theorem d_G_addSlotFrom_122 : decode b_G_addSlotFrom 122 = .ok (.aload_n 0, 1) := by decide +kernel
theorem d_G_addSlotFrom_123 : decode b_G_addSlotFrom 123 = .ok (.getfield 53, 3) := by decide +kernel
theorem d_G_addSlotFrom_126 : decode b_G_addSlotFrom 126 = .ok (.invokevirtual 74, 3) := by decide +kernel
theorem d_G_addSlotFrom_129 : decode b_G_addSlotFrom 129 = .ok (.aload_n 0, 1) := by decide +kernel
theorem d_G_addSlotFrom_130 : decode b_G_addSlotFrom 130 = .ok (.dup, 1) := by decide +kernel
theorem d_G_addSlotFrom_131 : decode b_G_addSlotFrom 131 = .ok (.getfield 53, 3) := by decide +kernel
theorem d_G_addSlotFrom_134 : decode b_G_addSlotFrom 134 = .ok (.iconst 1, 1) := by decide +kernel
theorem d_G_addSlotFrom_135 : decode b_G_addSlotFrom 135 = .ok (.iadd, 1) := by decide +kernel
theorem d_G_addSlotFrom_136 : decode b_G_addSlotFrom 136 = .ok (.putfield 53, 3) := by decide +kernel
theorem d_G_addSlotFrom_139 : decode b_G_addSlotFrom 139 = .ok (.return_, 1) := by decide +kernel
theorem d_G_findSlots_0 : decode b_G_findSlots 0 = .ok (.aload_n 0, 1) := by decide +kernel
theorem d_G_findSlots_1 : decode b_G_findSlots 1 = .ok (.iconst 0, 1) := by decide +kernel
theorem d_G_findSlots_2 : decode b_G_findSlots 2 = .ok (.putfield 53, 3) := by decide +kernel
theorem d_G_findSlots_5 : decode b_G_findSlots 5 = .ok (.aload_n 0, 1) := by decide +kernel
theorem d_G_findSlots_6 : decode b_G_findSlots 6 = .ok (.getfield 28, 3) := by decide +kernel
theorem d_G_findSlots_9 : decode b_G_findSlots 9 = .ok (.iconst (-1), 1) := by decide +kernel
theorem d_G_findSlots_10 : decode b_G_findSlots 10 = .ok (.invokestatic 56, 3) := by decide +kernel
theorem d_G_findSlots_13 : decode b_G_findSlots 13 = .ok (.aload_n 0, 1) := by decide +kernel
theorem d_G_findSlots_14 : decode b_G_findSlots 14 = .ok (.getfield 31, 3) := by decide +kernel
theorem d_G_findSlots_17 : decode b_G_findSlots 17 = .ok (.iconst (-1), 1) := by decide +kernel
theorem d_G_findSlots_18 : decode b_G_findSlots 18 = .ok (.invokestatic 56, 3) := by decide +kernel
theorem d_G_findSlots_21 : decode b_G_findSlots 21 = .ok (.iconst 0, 1) := by decide +kernel
theorem d_G_findSlots_22 : decode b_G_findSlots 22 = .ok (.istore_n 1, 1) := by decide +kernel
theorem d_G_findSlots_23 : decode b_G_findSlots 23 = .ok (.iload_n 1, 1) := by decide +kernel
theorem d_G_findSlots_24 : decode b_G_findSlots 24 = .ok (.iconst 1, 1) := by decide +kernel
theorem d_G_findSlots_25 : decode b_G_findSlots 25 = .ok (.if_icmp .gt 48, 3) := by decide +kernel
theorem d_G_findSlots_28 : decode b_G_findSlots 28 = .ok (.iconst 0, 1) := by decide +kernel
theorem d_G_findSlots_29 : decode b_G_findSlots 29 = .ok (.istore_n 2, 1) := by decide +kernel
theorem d_G_findSlots_30 : decode b_G_findSlots 30 = .ok (.iload_n 2, 1) := by decide +kernel
theorem d_G_findSlots_31 : decode b_G_findSlots 31 = .ok (.aload_n 0, 1) := by decide +kernel
theorem d_G_findSlots_32 : decode b_G_findSlots 32 = .ok (.getfield 44, 3) := by decide +kernel
theorem d_G_findSlots_35 : decode b_G_findSlots 35 = .ok (.if_icmp .ge 32, 3) := by decide +kernel
theorem d_G_findSlots_38 : decode b_G_findSlots 38 = .ok (.iconst 0, 1) := by decide +kernel
theorem d_G_findSlots_39 : decode b_G_findSlots 39 = .ok (.istore_n 3, 1) := by decide +kernel
theorem d_G_findSlots_40 : decode b_G_findSlots 40 = .ok (.iload_n 3, 1) := by decide +kernel
theorem d_G_findSlots_41 : decode b_G_findSlots 41 = .ok (.aload_n 0, 1) := by decide +kernel
theorem d_G_findSlots_42 : decode b_G_findSlots 42 = .ok (.getfield 40, 3) := by decide +kernel
theorem d_G_findSlots_45 : decode b_G_findSlots 45 = .ok (.if_icmp .ge 16, 3) := by decide +kernel
theorem d_G_findSlots_48 : decode b_G_findSlots 48 = .ok (.aload_n 0, 1) := by decide +kernel
theorem d_G_findSlots_49 : decode b_G_findSlots 49 = .ok (.iload_n 3, 1) := by decide +kernel
theorem d_G_findSlots_50 : decode b_G_findSlots 50 = .ok (.iload_n 2, 1) := by decide +kernel
theorem d_G_findSlots_51 : decode b_G_findSlots 51 = .ok (.iload_n 1, 1) := by decide +kernel
theorem d_G_findSlots_52 : decode b_G_findSlots 52 = .ok (.invokevirtual 62, 3) := by decide +kernel
theorem d_G_findSlots_55 : decode b_G_findSlots 55 = .ok (.iinc 3 1, 3) := by decide +kernel
theorem d_G_findSlots_58 : decode b_G_findSlots 58 = .ok (.goto (-18), 3) := by decide +kernel
theorem d_G_findSlots_61 : decode b_G_findSlots 61 = .ok (.iinc 2 1, 3) := by decide +kernel
theorem d_G_findSlots_64 : decode b_G_findSlots 64 = .ok (.goto (-34), 3) := by decide +kernel
theorem d_G_findSlots_67 : decode b_G_findSlots 67 = .ok (.iinc 1 1, 3) := by decide +kernel
theorem d_G_findSlots_70 : decode b_G_findSlots 70 = .ok (.goto (-47), 3) := by decide +kernel
theorem d_G_findSlots_73 : decode b_G_findSlots 73 = .ok (.return_, 1) := by decide +kernel
theorem d_G_paint_0 : decode b_G_paint 0 = .ok (.aload_n 0, 1) := by decide +kernel
theorem d_G_paint_1 : decode b_G_paint 1 = .ok (.getfield 9, 3) := by decide +kernel
theorem d_G_paint_4 : decode b_G_paint 4 = .ok (.iload_n 1, 1) := by decide +kernel
theorem d_G_paint_5 : decode b_G_paint 5 = .ok (.iload_n 2, 1) := by decide +kernel
theorem d_G_paint_6 : decode b_G_paint 6 = .ok (.bastore, 1) := by decide +kernel
theorem d_G_paint_7 : decode b_G_paint 7 = .ok (.aload_n 0, 1) := by decide +kernel
theorem d_G_paint_8 : decode b_G_paint 8 = .ok (.getfield 15, 3) := by decide +kernel
theorem d_G_paint_11 : decode b_G_paint 11 = .ok (.iconst 0, 1) := by decide +kernel
theorem d_G_paint_12 : decode b_G_paint 12 = .ok (.invokestatic 56, 3) := by decide +kernel
theorem d_G_paint_15 : decode b_G_paint 15 = .ok (.aload_n 0, 1) := by decide +kernel
theorem d_G_paint_16 : decode b_G_paint 16 = .ok (.invokevirtual 50, 3) := by decide +kernel
theorem d_G_paint_19 : decode b_G_paint 19 = .ok (.return_, 1) := by decide +kernel
theorem d_G_imageIsOpen_0 : decode b_G_imageIsOpen 0 = .ok (.iload_n 1, 1) := by decide +kernel
theorem d_G_imageIsOpen_1 : decode b_G_imageIsOpen 1 = .ok (.tableswitch 76 0 2 #[27, 48, 62], 27) := by decide +kernel
theorem d_G_imageIsOpen_28 : decode b_G_imageIsOpen 28 = .ok (.aload_n 0, 1) := by decide +kernel
theorem d_G_imageIsOpen_29 : decode b_G_imageIsOpen 29 = .ok (.aload_n 0, 1) := by decide +kernel
theorem d_G_imageIsOpen_30 : decode b_G_imageIsOpen 30 = .ok (.getfield 40, 3) := by decide +kernel
theorem d_G_imageIsOpen_33 : decode b_G_imageIsOpen 33 = .ok (.iconst 1, 1) := by decide +kernel
theorem d_G_imageIsOpen_34 : decode b_G_imageIsOpen 34 = .ok (.isub, 1) := by decide +kernel
theorem d_G_imageIsOpen_35 : decode b_G_imageIsOpen 35 = .ok (.iload_n 2, 1) := by decide +kernel
theorem d_G_imageIsOpen_36 : decode b_G_imageIsOpen 36 = .ok (.isub, 1) := by decide +kernel
theorem d_G_imageIsOpen_37 : decode b_G_imageIsOpen 37 = .ok (.aload_n 0, 1) := by decide +kernel
theorem d_G_imageIsOpen_38 : decode b_G_imageIsOpen 38 = .ok (.getfield 44, 3) := by decide +kernel
theorem d_G_imageIsOpen_41 : decode b_G_imageIsOpen 41 = .ok (.iconst 1, 1) := by decide +kernel
theorem d_G_imageIsOpen_42 : decode b_G_imageIsOpen 42 = .ok (.isub, 1) := by decide +kernel
theorem d_G_imageIsOpen_43 : decode b_G_imageIsOpen 43 = .ok (.iload_n 3, 1) := by decide +kernel
theorem d_G_imageIsOpen_44 : decode b_G_imageIsOpen 44 = .ok (.isub, 1) := by decide +kernel
theorem d_G_imageIsOpen_45 : decode b_G_imageIsOpen 45 = .ok (.invokevirtual 66, 3) := by decide +kernel
theorem d_G_imageIsOpen_48 : decode b_G_imageIsOpen 48 = .ok (.ireturn, 1) := by decide +kernel
theorem d_G_imageIsOpen_49 : decode b_G_imageIsOpen 49 = .ok (.aload_n 0, 1) := by decide +kernel
theorem d_G_imageIsOpen_50 : decode b_G_imageIsOpen 50 = .ok (.aload_n 0, 1) := by decide +kernel
theorem d_G_imageIsOpen_51 : decode b_G_imageIsOpen 51 = .ok (.getfield 40, 3) := by decide +kernel
theorem d_G_imageIsOpen_54 : decode b_G_imageIsOpen 54 = .ok (.iconst 1, 1) := by decide +kernel
theorem d_G_imageIsOpen_55 : decode b_G_imageIsOpen 55 = .ok (.isub, 1) := by decide +kernel
theorem d_G_imageIsOpen_56 : decode b_G_imageIsOpen 56 = .ok (.iload_n 2, 1) := by decide +kernel
theorem d_G_imageIsOpen_57 : decode b_G_imageIsOpen 57 = .ok (.isub, 1) := by decide +kernel
theorem d_G_imageIsOpen_58 : decode b_G_imageIsOpen 58 = .ok (.iload_n 3, 1) := by decide +kernel
theorem d_G_imageIsOpen_59 : decode b_G_imageIsOpen 59 = .ok (.invokevirtual 66, 3) := by decide +kernel
theorem d_G_imageIsOpen_62 : decode b_G_imageIsOpen 62 = .ok (.ireturn, 1) := by decide +kernel
theorem d_G_imageIsOpen_63 : decode b_G_imageIsOpen 63 = .ok (.aload_n 0, 1) := by decide +kernel
theorem d_G_imageIsOpen_64 : decode b_G_imageIsOpen 64 = .ok (.iload_n 2, 1) := by decide +kernel
theorem d_G_imageIsOpen_65 : decode b_G_imageIsOpen 65 = .ok (.aload_n 0, 1) := by decide +kernel
theorem d_G_imageIsOpen_66 : decode b_G_imageIsOpen 66 = .ok (.getfield 44, 3) := by decide +kernel
theorem d_G_imageIsOpen_69 : decode b_G_imageIsOpen 69 = .ok (.iconst 1, 1) := by decide +kernel
theorem d_G_imageIsOpen_70 : decode b_G_imageIsOpen 70 = .ok (.isub, 1) := by decide +kernel
theorem d_G_imageIsOpen_71 : decode b_G_imageIsOpen 71 = .ok (.iload_n 3, 1) := by decide +kernel
theorem d_G_imageIsOpen_72 : decode b_G_imageIsOpen 72 = .ok (.isub, 1) := by decide +kernel
theorem d_G_imageIsOpen_73 : decode b_G_imageIsOpen 73 = .ok (.invokevirtual 66, 3) := by decide +kernel
theorem d_G_imageIsOpen_76 : decode b_G_imageIsOpen 76 = .ok (.ireturn, 1) := by decide +kernel
theorem d_G_imageIsOpen_77 : decode b_G_imageIsOpen 77 = .ok (.aload_n 0, 1) := by decide +kernel
theorem d_G_imageIsOpen_78 : decode b_G_imageIsOpen 78 = .ok (.iload_n 3, 1) := by decide +kernel
theorem d_G_imageIsOpen_79 : decode b_G_imageIsOpen 79 = .ok (.iload_n 2, 1) := by decide +kernel
theorem d_G_imageIsOpen_80 : decode b_G_imageIsOpen 80 = .ok (.invokevirtual 66, 3) := by decide +kernel
theorem d_G_imageIsOpen_83 : decode b_G_imageIsOpen 83 = .ok (.ireturn, 1) := by decide +kernel
theorem d_G_looksTheSame_0 : decode b_G_looksTheSame 0 = .ok (.iconst 0, 1) := by decide +kernel
theorem d_G_looksTheSame_1 : decode b_G_looksTheSame 1 = .ok (.istore_n 2, 1) := by decide +kernel
theorem d_G_looksTheSame_2 : decode b_G_looksTheSame 2 = .ok (.iload_n 2, 1) := by decide +kernel
theorem d_G_looksTheSame_3 : decode b_G_looksTheSame 3 = .ok (.aload_n 0, 1) := by decide +kernel
theorem d_G_looksTheSame_4 : decode b_G_looksTheSame 4 = .ok (.getfield 44, 3) := by decide +kernel
theorem d_G_looksTheSame_7 : decode b_G_looksTheSame 7 = .ok (.if_icmp .ge 43, 3) := by decide +kernel
theorem d_G_looksTheSame_10 : decode b_G_looksTheSame 10 = .ok (.iconst 0, 1) := by decide +kernel
theorem d_G_looksTheSame_11 : decode b_G_looksTheSame 11 = .ok (.istore_n 3, 1) := by decide +kernel
theorem d_G_looksTheSame_12 : decode b_G_looksTheSame 12 = .ok (.iload_n 3, 1) := by decide +kernel
theorem d_G_looksTheSame_13 : decode b_G_looksTheSame 13 = .ok (.aload_n 0, 1) := by decide +kernel
theorem d_G_looksTheSame_14 : decode b_G_looksTheSame 14 = .ok (.getfield 40, 3) := by decide +kernel
theorem d_G_looksTheSame_17 : decode b_G_looksTheSame 17 = .ok (.if_icmp .ge 27, 3) := by decide +kernel
theorem d_G_looksTheSame_20 : decode b_G_looksTheSame 20 = .ok (.aload_n 0, 1) := by decide +kernel
theorem d_G_looksTheSame_21 : decode b_G_looksTheSame 21 = .ok (.iload_n 3, 1) := by decide +kernel
theorem d_G_looksTheSame_22 : decode b_G_looksTheSame 22 = .ok (.iload_n 2, 1) := by decide +kernel
theorem d_G_looksTheSame_23 : decode b_G_looksTheSame 23 = .ok (.invokevirtual 66, 3) := by decide +kernel
theorem d_G_looksTheSame_26 : decode b_G_looksTheSame 26 = .ok (.aload_n 0, 1) := by decide +kernel
theorem d_G_looksTheSame_27 : decode b_G_looksTheSame 27 = .ok (.iload_n 1, 1) := by decide +kernel
theorem d_G_looksTheSame_28 : decode b_G_looksTheSame 28 = .ok (.iload_n 3, 1) := by decide +kernel
theorem d_G_looksTheSame_29 : decode b_G_looksTheSame 29 = .ok (.iload_n 2, 1) := by decide +kernel
theorem d_G_looksTheSame_30 : decode b_G_looksTheSame 30 = .ok (.invokevirtual 81, 3) := by decide +kernel
theorem d_G_looksTheSame_33 : decode b_G_looksTheSame 33 = .ok (.if_icmp .eq 5, 3) := by decide +kernel
theorem d_G_looksTheSame_36 : decode b_G_looksTheSame 36 = .ok (.iconst 0, 1) := by decide +kernel
theorem d_G_looksTheSame_37 : decode b_G_looksTheSame 37 = .ok (.ireturn, 1) := by decide +kernel
theorem d_G_looksTheSame_38 : decode b_G_looksTheSame 38 = .ok (.iinc 3 1, 3) := by decide +kernel
theorem d_G_looksTheSame_41 : decode b_G_looksTheSame 41 = .ok (.goto (-29), 3) := by decide +kernel
theorem d_G_looksTheSame_44 : decode b_G_looksTheSame 44 = .ok (.iinc 2 1, 3) := by decide +kernel
theorem d_G_looksTheSame_47 : decode b_G_looksTheSame 47 = .ok (.goto (-45), 3) := by decide +kernel
theorem d_G_looksTheSame_50 : decode b_G_looksTheSame 50 = .ok (.iconst 1, 1) := by decide +kernel
theorem d_G_looksTheSame_51 : decode b_G_looksTheSame 51 = .ok (.ireturn, 1) := by decide +kernel
theorem d_G_join_0 : decode b_G_join 0 = .ok (.aload_n 0, 1) := by decide +kernel
theorem d_G_join_1 : decode b_G_join 1 = .ok (.iload_n 1, 1) := by decide +kernel
theorem d_G_join_2 : decode b_G_join 2 = .ok (.iload_n 2, 1) := by decide +kernel
theorem d_G_join_3 : decode b_G_join 3 = .ok (.invokevirtual 66, 3) := by decide +kernel
theorem d_G_join_6 : decode b_G_join 6 = .ok (.ifCond .eq 13, 3) := by decide +kernel
theorem d_G_join_9 : decode b_G_join 9 = .ok (.aload_n 0, 1) := by decide +kernel
theorem d_G_join_10 : decode b_G_join 10 = .ok (.iload_n 3, 1) := by decide +kernel
theorem d_G_join_11 : decode b_G_join 11 = .ok (.iload 4, 2) := by decide +kernel
theorem d_G_join_13 : decode b_G_join 13 = .ok (.invokevirtual 66, 3) := by decide +kernel
theorem d_G_join_16 : decode b_G_join 16 = .ok (.ifCond .ne 5, 3) := by decide +kernel
theorem d_G_join_19 : decode b_G_join 19 = .ok (.iconst 0, 1) := by decide +kernel
theorem d_G_join_20 : decode b_G_join 20 = .ok (.ireturn, 1) := by decide +kernel
theorem d_G_join_21 : decode b_G_join 21 = .ok (.aload_n 0, 1) := by decide +kernel
theorem d_G_join_22 : decode b_G_join 22 = .ok (.getfield 37, 3) := by decide +kernel
theorem d_G_join_25 : decode b_G_join 25 = .ok (.aload_n 0, 1) := by decide +kernel
theorem d_G_join_26 : decode b_G_join 26 = .ok (.iload_n 1, 1) := by decide +kernel
theorem d_G_join_27 : decode b_G_join 27 = .ok (.iload_n 2, 1) := by decide +kernel
theorem d_G_join_28 : decode b_G_join 28 = .ok (.invokevirtual 70, 3) := by decide +kernel
theorem d_G_join_31 : decode b_G_join 31 = .ok (.iaload, 1) := by decide +kernel
theorem d_G_join_32 : decode b_G_join 32 = .ok (.istore 5, 2) := by decide +kernel
theorem d_G_join_34 : decode b_G_join 34 = .ok (.aload_n 0, 1) := by decide +kernel
theorem d_G_join_35 : decode b_G_join 35 = .ok (.getfield 37, 3) := by decide +kernel
theorem d_G_join_38 : decode b_G_join 38 = .ok (.aload_n 0, 1) := by decide +kernel
theorem d_G_join_39 : decode b_G_join 39 = .ok (.iload_n 3, 1) := by decide +kernel
theorem d_G_join_40 : decode b_G_join 40 = .ok (.iload 4, 2) := by decide +kernel
theorem d_G_join_42 : decode b_G_join 42 = .ok (.invokevirtual 70, 3) := by decide +kernel
theorem d_G_join_45 : decode b_G_join 45 = .ok (.iaload, 1) := by decide +kernel
theorem d_G_join_46 : decode b_G_join 46 = .ok (.istore 6, 2) := by decide +kernel
theorem d_G_join_48 : decode b_G_join 48 = .ok (.iload 5, 2) := by decide +kernel
theorem d_G_join_50 : decode b_G_join 50 = .ok (.iload 6, 2) := by decide +kernel
theorem d_G_join_52 : decode b_G_join 52 = .ok (.if_icmp .ne 5, 3) := by decide +kernel
theorem d_G_join_55 : decode b_G_join 55 = .ok (.iconst 0, 1) := by decide +kernel
theorem d_G_join_56 : decode b_G_join 56 = .ok (.ireturn, 1) := by decide +kernel
theorem d_G_join_57 : decode b_G_join 57 = .ok (.iconst 0, 1) := by decide +kernel
theorem d_G_join_58 : decode b_G_join 58 = .ok (.istore 7, 2) := by decide +kernel
theorem d_G_join_60 : decode b_G_join 60 = .ok (.iload 7, 2) := by decide +kernel
theorem d_G_join_62 : decode b_G_join 62 = .ok (.aload_n 0, 1) := by decide +kernel
theorem d_G_join_63 : decode b_G_join 63 = .ok (.getfield 47, 3) := by decide +kernel
theorem d_G_join_66 : decode b_G_join 66 = .ok (.if_icmp .ge 30, 3) := by decide +kernel
theorem d_G_join_69 : decode b_G_join 69 = .ok (.aload_n 0, 1) := by decide +kernel
theorem d_G_join_70 : decode b_G_join 70 = .ok (.getfield 37, 3) := by decide +kernel
theorem d_G_join_73 : decode b_G_join 73 = .ok (.iload 7, 2) := by decide +kernel
theorem d_G_join_75 : decode b_G_join 75 = .ok (.iaload, 1) := by decide +kernel
theorem d_G_join_76 : decode b_G_join 76 = .ok (.iload 6, 2) := by decide +kernel
theorem d_G_join_78 : decode b_G_join 78 = .ok (.if_icmp .ne 12, 3) := by decide +kernel
theorem d_G_join_81 : decode b_G_join 81 = .ok (.aload_n 0, 1) := by decide +kernel
theorem d_G_join_82 : decode b_G_join 82 = .ok (.getfield 37, 3) := by decide +kernel
theorem d_G_join_85 : decode b_G_join 85 = .ok (.iload 7, 2) := by decide +kernel
theorem d_G_join_87 : decode b_G_join 87 = .ok (.iload 5, 2) := by decide +kernel
theorem d_G_join_89 : decode b_G_join 89 = .ok (.iastore, 1) := by decide +kernel
theorem d_G_join_90 : decode b_G_join 90 = .ok (.iinc 7 1, 3) := by decide +kernel
theorem d_G_join_93 : decode b_G_join 93 = .ok (.goto (-33), 3) := by decide +kernel
end
section
theorem d_G_join_96 : decode b_G_join 96 = .ok (.iconst 1, 1) := by decide +kernel
theorem d_G_join_97 : decode b_G_join 97 = .ok (.ireturn, 1) := by decide +kernel
theorem d_G_countParts_0 : decode b_G_countParts 0 = .ok (.iconst 0, 1) := by decide +kernel
theorem d_G_countParts_1 : decode b_G_countParts 1 = .ok (.istore_n 1, 1) := by decide +kernel
theorem d_G_countParts_2 : decode b_G_countParts 2 = .ok (.iconst 0, 1) := by decide +kernel
theorem d_G_countParts_3 : decode b_G_countParts 3 = .ok (.istore_n 2, 1) := by decide +kernel
theorem d_G_countParts_4 : decode b_G_countParts 4 = .ok (.iload_n 2, 1) := by decide +kernel
theorem d_G_countParts_5 : decode b_G_countParts 5 = .ok (.aload_n 0, 1) := by decide +kernel
theorem d_G_countParts_6 : decode b_G_countParts 6 = .ok (.getfield 47, 3) := by decide +kernel
theorem d_G_countParts_9 : decode b_G_countParts 9 = .ok (.if_icmp .ge 33, 3) := by decide +kernel
theorem d_G_countParts_12 : decode b_G_countParts 12 = .ok (.aload_n 0, 1) := by decide +kernel
theorem d_G_countParts_13 : decode b_G_countParts 13 = .ok (.getfield 37, 3) := by decide +kernel
theorem d_G_countParts_16 : decode b_G_countParts 16 = .ok (.iload_n 2, 1) := by decide +kernel
theorem d_G_countParts_17 : decode b_G_countParts 17 = .ok (.iload_n 2, 1) := by decide +kernel
theorem d_G_countParts_18 : decode b_G_countParts 18 = .ok (.iastore, 1) := by decide +kernel
theorem d_G_countParts_19 : decode b_G_countParts 19 = .ok (.iload_n 1, 1) := by decide +kernel
theorem d_G_countParts_20 : decode b_G_countParts 20 = .ok (.aload_n 0, 1) := by decide +kernel
theorem d_G_countParts_21 : decode b_G_countParts 21 = .ok (.getfield 9, 3) := by decide +kernel
theorem d_G_countParts_24 : decode b_G_countParts 24 = .ok (.iload_n 2, 1) := by decide +kernel
theorem d_G_countParts_25 : decode b_G_countParts 25 = .ok (.baload, 1) := by decide +kernel
theorem d_G_countParts_26 : decode b_G_countParts 26 = .ok (.ifCond .eq 7, 3) := by decide +kernel
theorem d_G_countParts_29 : decode b_G_countParts 29 = .ok (.iconst 0, 1) := by decide +kernel
theorem d_G_countParts_30 : decode b_G_countParts 30 = .ok (.goto 4, 3) := by decide +kernel
theorem d_G_countParts_33 : decode b_G_countParts 33 = .ok (.iconst 1, 1) := by decide +kernel
theorem d_G_countParts_34 : decode b_G_countParts 34 = .ok (.iadd, 1) := by decide +kernel
theorem d_G_countParts_35 : decode b_G_countParts 35 = .ok (.istore_n 1, 1) := by decide +kernel
theorem d_G_countParts_36 : decode b_G_countParts 36 = .ok (.iinc 2 1, 3) := by decide +kernel
theorem d_G_countParts_39 : decode b_G_countParts 39 = .ok (.goto (-35), 3) := by decide +kernel
theorem d_G_countParts_42 : decode b_G_countParts 42 = .ok (.iconst 0, 1) := by decide +kernel
theorem d_G_countParts_43 : decode b_G_countParts 43 = .ok (.istore_n 2, 1) := by decide +kernel
theorem d_G_countParts_44 : decode b_G_countParts 44 = .ok (.iload_n 2, 1) := by decide +kernel
theorem d_G_countParts_45 : decode b_G_countParts 45 = .ok (.aload_n 0, 1) := by decide +kernel
theorem d_G_countParts_46 : decode b_G_countParts 46 = .ok (.getfield 44, 3) := by decide +kernel
theorem d_G_countParts_49 : decode b_G_countParts 49 = .ok (.if_icmp .ge 67, 3) := by decide +kernel
theorem d_G_countParts_52 : decode b_G_countParts 52 = .ok (.iconst 0, 1) := by decide +kernel
theorem d_G_countParts_53 : decode b_G_countParts 53 = .ok (.istore_n 3, 1) := by decide +kernel
theorem d_G_countParts_54 : decode b_G_countParts 54 = .ok (.iload_n 3, 1) := by decide +kernel
theorem d_G_countParts_55 : decode b_G_countParts 55 = .ok (.aload_n 0, 1) := by decide +kernel
theorem d_G_countParts_56 : decode b_G_countParts 56 = .ok (.getfield 40, 3) := by decide +kernel
theorem d_G_countParts_59 : decode b_G_countParts 59 = .ok (.if_icmp .ge 51, 3) := by decide +kernel
theorem d_G_countParts_62 : decode b_G_countParts 62 = .ok (.iload_n 1, 1) := by decide +kernel
theorem d_G_countParts_63 : decode b_G_countParts 63 = .ok (.aload_n 0, 1) := by decide +kernel
theorem d_G_countParts_64 : decode b_G_countParts 64 = .ok (.iload_n 3, 1) := by decide +kernel
theorem d_G_countParts_65 : decode b_G_countParts 65 = .ok (.iload_n 2, 1) := by decide +kernel
theorem d_G_countParts_66 : decode b_G_countParts 66 = .ok (.iload_n 3, 1) := by decide +kernel
theorem d_G_countParts_67 : decode b_G_countParts 67 = .ok (.iconst 1, 1) := by decide +kernel
theorem d_G_countParts_68 : decode b_G_countParts 68 = .ok (.iadd, 1) := by decide +kernel
theorem d_G_countParts_69 : decode b_G_countParts 69 = .ok (.iload_n 2, 1) := by decide +kernel
theorem d_G_countParts_70 : decode b_G_countParts 70 = .ok (.invokevirtual 85, 3) := by decide +kernel
theorem d_G_countParts_73 : decode b_G_countParts 73 = .ok (.ifCond .eq 7, 3) := by decide +kernel
theorem d_G_countParts_76 : decode b_G_countParts 76 = .ok (.iconst 1, 1) := by decide +kernel
theorem d_G_countParts_77 : decode b_G_countParts 77 = .ok (.goto 4, 3) := by decide +kernel
theorem d_G_countParts_80 : decode b_G_countParts 80 = .ok (.iconst 0, 1) := by decide +kernel
theorem d_G_countParts_81 : decode b_G_countParts 81 = .ok (.isub, 1) := by decide +kernel
theorem d_G_countParts_82 : decode b_G_countParts 82 = .ok (.istore_n 1, 1) := by decide +kernel
theorem d_G_countParts_83 : decode b_G_countParts 83 = .ok (.iload_n 1, 1) := by decide +kernel
theorem d_G_countParts_84 : decode b_G_countParts 84 = .ok (.aload_n 0, 1) := by decide +kernel
theorem d_G_countParts_85 : decode b_G_countParts 85 = .ok (.iload_n 3, 1) := by decide +kernel
theorem d_G_countParts_86 : decode b_G_countParts 86 = .ok (.iload_n 2, 1) := by decide +kernel
theorem d_G_countParts_87 : decode b_G_countParts 87 = .ok (.iload_n 3, 1) := by decide +kernel
theorem d_G_countParts_88 : decode b_G_countParts 88 = .ok (.iload_n 2, 1) := by decide +kernel
theorem d_G_countParts_89 : decode b_G_countParts 89 = .ok (.iconst 1, 1) := by decide +kernel
theorem d_G_countParts_90 : decode b_G_countParts 90 = .ok (.iadd, 1) := by decide +kernel
theorem d_G_countParts_91 : decode b_G_countParts 91 = .ok (.invokevirtual 85, 3) := by decide +kernel
theorem d_G_countParts_94 : decode b_G_countParts 94 = .ok (.ifCond .eq 7, 3) := by decide +kernel
theorem d_G_countParts_97 : decode b_G_countParts 97 = .ok (.iconst 1, 1) := by decide +kernel
theorem d_G_countParts_98 : decode b_G_countParts 98 = .ok (.goto 4, 3) := by decide +kernel
theorem d_G_countParts_101 : decode b_G_countParts 101 = .ok (.iconst 0, 1) := by decide +kernel
theorem d_G_countParts_102 : decode b_G_countParts 102 = .ok (.isub, 1) := by decide +kernel
theorem d_G_countParts_103 : decode b_G_countParts 103 = .ok (.istore_n 1, 1) := by decide +kernel
theorem d_G_countParts_104 : decode b_G_countParts 104 = .ok (.iinc 3 1, 3) := by decide +kernel
theorem d_G_countParts_107 : decode b_G_countParts 107 = .ok (.goto (-53), 3) := by decide +kernel
theorem d_G_countParts_110 : decode b_G_countParts 110 = .ok (.iinc 2 1, 3) := by decide +kernel
theorem d_G_countParts_113 : decode b_G_countParts 113 = .ok (.goto (-69), 3) := by decide +kernel
theorem d_G_countParts_116 : decode b_G_countParts 116 = .ok (.iload_n 1, 1) := by decide +kernel
theorem d_G_countParts_117 : decode b_G_countParts 117 = .ok (.ireturn, 1) := by decide +kernel
theorem d_L_lowBit_0 : decode b_L_lowBit 0 = .ok (.iload_n 0, 1) := by decide +kernel
theorem d_L_lowBit_1 : decode b_L_lowBit 1 = .ok (.bipush 64, 2) := by decide +kernel
theorem d_L_lowBit_3 : decode b_L_lowBit 3 = .ok (.if_icmp .ge 9, 3) := by decide +kernel
theorem d_L_lowBit_6 : decode b_L_lowBit 6 = .ok (.lconst 1, 1) := by decide +kernel
theorem d_L_lowBit_7 : decode b_L_lowBit 7 = .ok (.iload_n 0, 1) := by decide +kernel
theorem d_L_lowBit_8 : decode b_L_lowBit 8 = .ok (.lshl, 1) := by decide +kernel
theorem d_L_lowBit_9 : decode b_L_lowBit 9 = .ok (.goto 4, 3) := by decide +kernel
theorem d_L_lowBit_12 : decode b_L_lowBit 12 = .ok (.lconst 0, 1) := by decide +kernel
theorem d_L_lowBit_13 : decode b_L_lowBit 13 = .ok (.lreturn, 1) := by decide +kernel
theorem d_L_highBit_0 : decode b_L_highBit 0 = .ok (.iload_n 0, 1) := by decide +kernel
theorem d_L_highBit_1 : decode b_L_highBit 1 = .ok (.bipush 64, 2) := by decide +kernel
theorem d_L_highBit_3 : decode b_L_highBit 3 = .ok (.if_icmp .ge 7, 3) := by decide +kernel
theorem d_L_highBit_6 : decode b_L_highBit 6 = .ok (.lconst 0, 1) := by decide +kernel
theorem d_L_highBit_7 : decode b_L_highBit 7 = .ok (.goto 9, 3) := by decide +kernel
theorem d_L_highBit_10 : decode b_L_highBit 10 = .ok (.lconst 1, 1) := by decide +kernel
theorem d_L_highBit_11 : decode b_L_highBit 11 = .ok (.iload_n 0, 1) := by decide +kernel
theorem d_L_highBit_12 : decode b_L_highBit 12 = .ok (.bipush 64, 2) := by decide +kernel
theorem d_L_highBit_14 : decode b_L_highBit 14 = .ok (.isub, 1) := by decide +kernel
theorem d_L_highBit_15 : decode b_L_highBit 15 = .ok (.lshl, 1) := by decide +kernel
theorem d_L_highBit_16 : decode b_L_highBit 16 = .ok (.lreturn, 1) := by decide +kernel
theorem d_L_keyOf_0 : decode b_L_keyOf 0 = .ok (.iload_n 0, 1) := by decide +kernel
theorem d_L_keyOf_1 : decode b_L_keyOf 1 = .ok (.bipush 26, 2) := by decide +kernel
theorem d_L_keyOf_3 : decode b_L_keyOf 3 = .ok (.imul, 1) := by decide +kernel
theorem d_L_keyOf_4 : decode b_L_keyOf 4 = .ok (.iload_n 1, 1) := by decide +kernel
theorem d_L_keyOf_5 : decode b_L_keyOf 5 = .ok (.iadd, 1) := by decide +kernel
theorem d_L_keyOf_6 : decode b_L_keyOf 6 = .ok (.bipush 97, 2) := by decide +kernel
theorem d_L_keyOf_8 : decode b_L_keyOf 8 = .ok (.isub, 1) := by decide +kernel
theorem d_L_keyOf_9 : decode b_L_keyOf 9 = .ok (.ireturn, 1) := by decide +kernel
theorem d_L_hasWord_0 : decode b_L_hasWord 0 = .ok (.iload_n 1, 1) := by decide +kernel
theorem d_L_hasWord_1 : decode b_L_hasWord 1 = .ok (.ifCond .lt 15, 3) := by decide +kernel
theorem d_L_hasWord_4 : decode b_L_hasWord 4 = .ok (.iload_n 1, 1) := by decide +kernel
theorem d_L_hasWord_5 : decode b_L_hasWord 5 = .ok (.aload_n 0, 1) := by decide +kernel
theorem d_L_hasWord_6 : decode b_L_hasWord 6 = .ok (.getfield 43, 3) := by decide +kernel
theorem d_L_hasWord_9 : decode b_L_hasWord 9 = .ok (.if_icmp .ge 7, 3) := by decide +kernel
theorem d_L_hasWord_12 : decode b_L_hasWord 12 = .ok (.iconst 1, 1) := by decide +kernel
theorem d_L_hasWord_13 : decode b_L_hasWord 13 = .ok (.goto 4, 3) := by decide +kernel
theorem d_L_hasWord_16 : decode b_L_hasWord 16 = .ok (.iconst 0, 1) := by decide +kernel
theorem d_L_hasWord_17 : decode b_L_hasWord 17 = .ok (.ireturn, 1) := by decide +kernel
theorem d_L_letterOf_0 : decode b_L_letterOf 0 = .ok (.aload_n 0, 1) := by decide +kernel
theorem d_L_letterOf_1 : decode b_L_letterOf 1 = .ok (.getfield 37, 3) := by decide +kernel
theorem d_L_letterOf_4 : decode b_L_letterOf 4 = .ok (.iload_n 1, 1) := by decide +kernel
theorem d_L_letterOf_5 : decode b_L_letterOf 5 = .ok (.bipush 6, 2) := by decide +kernel
theorem d_L_letterOf_7 : decode b_L_letterOf 7 = .ok (.imul, 1) := by decide +kernel
theorem d_L_letterOf_8 : decode b_L_letterOf 8 = .ok (.iload_n 2, 1) := by decide +kernel
theorem d_L_letterOf_9 : decode b_L_letterOf 9 = .ok (.iadd, 1) := by decide +kernel
theorem d_L_letterOf_10 : decode b_L_letterOf 10 = .ok (.iaload, 1) := by decide +kernel
theorem d_L_letterOf_11 : decode b_L_letterOf 11 = .ok (.ireturn, 1) := by decide +kernel
theorem d_L_collect_0 : decode b_L_collect 0 = .ok (.aload_n 0, 1) := by decide +kernel
theorem d_L_collect_1 : decode b_L_collect 1 = .ok (.getfield 47, 3) := by decide +kernel
theorem d_L_collect_4 : decode b_L_collect 4 = .ok (.bipush 6, 2) := by decide +kernel
theorem d_L_collect_6 : decode b_L_collect 6 = .ok (.if_icmp .lt 5, 3) := by decide +kernel
theorem d_L_collect_9 : decode b_L_collect 9 = .ok (.iconst 0, 1) := by decide +kernel
theorem d_L_collect_10 : decode b_L_collect 10 = .ok (.ireturn, 1) := by decide +kernel
theorem d_L_collect_11 : decode b_L_collect 11 = .ok (.aload_n 0, 1) := by decide +kernel
theorem d_L_collect_12 : decode b_L_collect 12 = .ok (.getfield 40, 3) := by decide +kernel
theorem d_L_collect_15 : decode b_L_collect 15 = .ok (.aload_n 0, 1) := by decide +kernel
theorem d_L_collect_16 : decode b_L_collect 16 = .ok (.getfield 47, 3) := by decide +kernel
theorem d_L_collect_19 : decode b_L_collect 19 = .ok (.iload_n 1, 1) := by decide +kernel
theorem d_L_collect_20 : decode b_L_collect 20 = .ok (.iastore, 1) := by decide +kernel
theorem d_L_collect_21 : decode b_L_collect 21 = .ok (.aload_n 0, 1) := by decide +kernel
theorem d_L_collect_22 : decode b_L_collect 22 = .ok (.dup, 1) := by decide +kernel
theorem d_L_collect_23 : decode b_L_collect 23 = .ok (.getfield 47, 3) := by decide +kernel
theorem d_L_collect_26 : decode b_L_collect 26 = .ok (.iconst 1, 1) := by decide +kernel
theorem d_L_collect_27 : decode b_L_collect 27 = .ok (.iadd, 1) := by decide +kernel
theorem d_L_collect_28 : decode b_L_collect 28 = .ok (.putfield 47, 3) := by decide +kernel
theorem d_L_collect_31 : decode b_L_collect 31 = .ok (.iconst 1, 1) := by decide +kernel
theorem d_L_collect_32 : decode b_L_collect 32 = .ok (.ireturn, 1) := by decide +kernel
theorem d_L_dropCollected_0 : decode b_L_dropCollected 0 = .ok (.aload_n 0, 1) := by decide +kernel
theorem d_L_dropCollected_1 : decode b_L_dropCollected 1 = .ok (.iconst 0, 1) := by decide +kernel
theorem d_L_dropCollected_2 : decode b_L_dropCollected 2 = .ok (.putfield 47, 3) := by decide +kernel
theorem d_L_dropCollected_5 : decode b_L_dropCollected 5 = .ok (.return_, 1) := by decide +kernel
theorem d_L_isCollected_0 : decode b_L_isCollected 0 = .ok (.aload_n 0, 1) := by decide +kernel
theorem d_L_isCollected_1 : decode b_L_isCollected 1 = .ok (.getfield 9, 3) := by decide +kernel
theorem d_L_isCollected_4 : decode b_L_isCollected 4 = .ok (.iload_n 1, 1) := by decide +kernel
theorem d_L_isCollected_5 : decode b_L_isCollected 5 = .ok (.iaload, 1) := by decide +kernel
theorem d_L_isCollected_6 : decode b_L_isCollected 6 = .ok (.aload_n 0, 1) := by decide +kernel
theorem d_L_isCollected_7 : decode b_L_isCollected 7 = .ok (.getfield 47, 3) := by decide +kernel
theorem d_L_isCollected_10 : decode b_L_isCollected 10 = .ok (.if_icmp .eq 5, 3) := by decide +kernel
theorem d_L_isCollected_13 : decode b_L_isCollected 13 = .ok (.iconst 0, 1) := by decide +kernel
theorem d_L_isCollected_14 : decode b_L_isCollected 14 = .ok (.ireturn, 1) := by decide +kernel
theorem d_L_isCollected_15 : decode b_L_isCollected 15 = .ok (.iconst 0, 1) := by decide +kernel
theorem d_L_isCollected_16 : decode b_L_isCollected 16 = .ok (.istore_n 2, 1) := by decide +kernel
theorem d_L_isCollected_17 : decode b_L_isCollected 17 = .ok (.iload_n 2, 1) := by decide +kernel
theorem d_L_isCollected_18 : decode b_L_isCollected 18 = .ok (.aload_n 0, 1) := by decide +kernel
theorem d_L_isCollected_19 : decode b_L_isCollected 19 = .ok (.getfield 47, 3) := by decide +kernel
theorem d_L_isCollected_22 : decode b_L_isCollected 22 = .ok (.if_icmp .ge 26, 3) := by decide +kernel
theorem d_L_isCollected_25 : decode b_L_isCollected 25 = .ok (.aload_n 0, 1) := by decide +kernel
theorem d_L_isCollected_26 : decode b_L_isCollected 26 = .ok (.iload_n 1, 1) := by decide +kernel
theorem d_L_isCollected_27 : decode b_L_isCollected 27 = .ok (.iload_n 2, 1) := by decide +kernel
theorem d_L_isCollected_28 : decode b_L_isCollected 28 = .ok (.invokevirtual 71, 3) := by decide +kernel
theorem d_L_isCollected_31 : decode b_L_isCollected 31 = .ok (.aload_n 0, 1) := by decide +kernel
theorem d_L_isCollected_32 : decode b_L_isCollected 32 = .ok (.getfield 40, 3) := by decide +kernel
theorem d_L_isCollected_35 : decode b_L_isCollected 35 = .ok (.iload_n 2, 1) := by decide +kernel
theorem d_L_isCollected_36 : decode b_L_isCollected 36 = .ok (.iaload, 1) := by decide +kernel
theorem d_L_isCollected_37 : decode b_L_isCollected 37 = .ok (.if_icmp .eq 5, 3) := by decide +kernel
theorem d_L_isCollected_40 : decode b_L_isCollected 40 = .ok (.iconst 0, 1) := by decide +kernel
theorem d_L_isCollected_41 : decode b_L_isCollected 41 = .ok (.ireturn, 1) := by decide +kernel
theorem d_L_isCollected_42 : decode b_L_isCollected 42 = .ok (.iinc 2 1, 3) := by decide +kernel
theorem d_L_isCollected_45 : decode b_L_isCollected 45 = .ok (.goto (-28), 3) := by decide +kernel
theorem d_L_isCollected_48 : decode b_L_isCollected 48 = .ok (.iconst 1, 1) := by decide +kernel
theorem d_L_isCollected_49 : decode b_L_isCollected 49 = .ok (.ireturn, 1) := by decide +kernel
theorem d_L_isThere_0 : decode b_L_isThere 0 = .ok (.iconst 0, 1) := by decide +kernel
theorem d_L_isThere_1 : decode b_L_isThere 1 = .ok (.istore_n 1, 1) := by decide +kernel
theorem d_L_isThere_2 : decode b_L_isThere 2 = .ok (.iload_n 1, 1) := by decide +kernel
theorem d_L_isThere_3 : decode b_L_isThere 3 = .ok (.aload_n 0, 1) := by decide +kernel
theorem d_L_isThere_4 : decode b_L_isThere 4 = .ok (.getfield 43, 3) := by decide +kernel
theorem d_L_isThere_7 : decode b_L_isThere 7 = .ok (.if_icmp .ge 19, 3) := by decide +kernel
theorem d_L_isThere_10 : decode b_L_isThere 10 = .ok (.aload_n 0, 1) := by decide +kernel
theorem d_L_isThere_11 : decode b_L_isThere 11 = .ok (.iload_n 1, 1) := by decide +kernel
theorem d_L_isThere_12 : decode b_L_isThere 12 = .ok (.invokevirtual 67, 3) := by decide +kernel
theorem d_L_isThere_15 : decode b_L_isThere 15 = .ok (.ifCond .eq 5, 3) := by decide +kernel
theorem d_L_isThere_18 : decode b_L_isThere 18 = .ok (.iconst 1, 1) := by decide +kernel
theorem d_L_isThere_19 : decode b_L_isThere 19 = .ok (.ireturn, 1) := by decide +kernel
theorem d_L_isThere_20 : decode b_L_isThere 20 = .ok (.iinc 1 1, 3) := by decide +kernel
theorem d_L_isThere_23 : decode b_L_isThere 23 = .ok (.goto (-21), 3) := by decide +kernel
theorem d_L_isThere_26 : decode b_L_isThere 26 = .ok (.iconst 0, 1) := by decide +kernel
theorem d_L_isThere_27 : decode b_L_isThere 27 = .ok (.ireturn, 1) := by decide +kernel
theorem d_L_rank_0 : decode b_L_rank 0 = .ok (.iload_n 1, 1) := by decide +kernel
theorem d_L_rank_1 : decode b_L_rank 1 = .ok (.istore_n 2, 1) := by decide +kernel
theorem d_L_rank_2 : decode b_L_rank 2 = .ok (.iload_n 2, 1) := by decide +kernel
theorem d_L_rank_3 : decode b_L_rank 3 = .ok (.ifCond .le 45, 3) := by decide +kernel
theorem d_L_rank_6 : decode b_L_rank 6 = .ok (.aload_n 0, 1) := by decide +kernel
theorem d_L_rank_7 : decode b_L_rank 7 = .ok (.getfield 15, 3) := by decide +kernel
theorem d_L_rank_10 : decode b_L_rank 10 = .ok (.aload_n 0, 1) := by decide +kernel
theorem d_L_rank_11 : decode b_L_rank 11 = .ok (.getfield 18, 3) := by decide +kernel
theorem d_L_rank_14 : decode b_L_rank 14 = .ok (.iload_n 2, 1) := by decide +kernel
theorem d_L_rank_15 : decode b_L_rank 15 = .ok (.iconst 1, 1) := by decide +kernel
theorem d_L_rank_16 : decode b_L_rank 16 = .ok (.isub, 1) := by decide +kernel
theorem d_L_rank_17 : decode b_L_rank 17 = .ok (.iaload, 1) := by decide +kernel
theorem d_L_rank_18 : decode b_L_rank 18 = .ok (.iaload, 1) := by decide +kernel
theorem d_L_rank_19 : decode b_L_rank 19 = .ok (.aload_n 0, 1) := by decide +kernel
theorem d_L_rank_20 : decode b_L_rank 20 = .ok (.getfield 15, 3) := by decide +kernel
theorem d_L_rank_23 : decode b_L_rank 23 = .ok (.iload_n 1, 1) := by decide +kernel
theorem d_L_rank_24 : decode b_L_rank 24 = .ok (.iaload, 1) := by decide +kernel
theorem d_L_rank_25 : decode b_L_rank 25 = .ok (.if_icmp .ge 23, 3) := by decide +kernel
theorem d_L_rank_28 : decode b_L_rank 28 = .ok (.aload_n 0, 1) := by decide +kernel
theorem d_L_rank_29 : decode b_L_rank 29 = .ok (.getfield 18, 3) := by decide +kernel
theorem d_L_rank_32 : decode b_L_rank 32 = .ok (.iload_n 2, 1) := by decide +kernel
theorem d_L_rank_33 : decode b_L_rank 33 = .ok (.aload_n 0, 1) := by decide +kernel
theorem d_L_rank_34 : decode b_L_rank 34 = .ok (.getfield 18, 3) := by decide +kernel
theorem d_L_rank_37 : decode b_L_rank 37 = .ok (.iload_n 2, 1) := by decide +kernel
theorem d_L_rank_38 : decode b_L_rank 38 = .ok (.iconst 1, 1) := by decide +kernel
theorem d_L_rank_39 : decode b_L_rank 39 = .ok (.isub, 1) := by decide +kernel
theorem d_L_rank_40 : decode b_L_rank 40 = .ok (.iaload, 1) := by decide +kernel
theorem d_L_rank_41 : decode b_L_rank 41 = .ok (.iastore, 1) := by decide +kernel
theorem d_L_rank_42 : decode b_L_rank 42 = .ok (.iinc 2 (-1), 3) := by decide +kernel
theorem d_L_rank_45 : decode b_L_rank 45 = .ok (.goto (-43), 3) := by decide +kernel
theorem d_L_rank_48 : decode b_L_rank 48 = .ok (.aload_n 0, 1) := by decide +kernel
theorem d_L_rank_49 : decode b_L_rank 49 = .ok (.getfield 18, 3) := by decide +kernel
theorem d_L_rank_52 : decode b_L_rank 52 = .ok (.iload_n 2, 1) := by decide +kernel
theorem d_L_rank_53 : decode b_L_rank 53 = .ok (.iload_n 1, 1) := by decide +kernel
theorem d_L_rank_54 : decode b_L_rank 54 = .ok (.iastore, 1) := by decide +kernel
theorem d_L_rank_55 : decode b_L_rank 55 = .ok (.return_, 1) := by decide +kernel
theorem d_L_sortIntoSets_0 : decode b_L_sortIntoSets 0 = .ok (.aload_n 0, 1) := by decide +kernel
theorem d_L_sortIntoSets_1 : decode b_L_sortIntoSets 1 = .ok (.getfield 24, 3) := by decide +kernel
theorem d_L_sortIntoSets_4 : decode b_L_sortIntoSets 4 = .ok (.lconst 0, 1) := by decide +kernel
theorem d_L_sortIntoSets_5 : decode b_L_sortIntoSets 5 = .ok (.invokestatic 75, 3) := by decide +kernel
theorem d_L_sortIntoSets_8 : decode b_L_sortIntoSets 8 = .ok (.aload_n 0, 1) := by decide +kernel
theorem d_L_sortIntoSets_9 : decode b_L_sortIntoSets 9 = .ok (.getfield 28, 3) := by decide +kernel
theorem d_L_sortIntoSets_12 : decode b_L_sortIntoSets 12 = .ok (.lconst 0, 1) := by decide +kernel
theorem d_L_sortIntoSets_13 : decode b_L_sortIntoSets 13 = .ok (.invokestatic 75, 3) := by decide +kernel
theorem d_L_sortIntoSets_16 : decode b_L_sortIntoSets 16 = .ok (.aload_n 0, 1) := by decide +kernel
theorem d_L_sortIntoSets_17 : decode b_L_sortIntoSets 17 = .ok (.getfield 31, 3) := by decide +kernel
theorem d_L_sortIntoSets_20 : decode b_L_sortIntoSets 20 = .ok (.lconst 0, 1) := by decide +kernel
theorem d_L_sortIntoSets_21 : decode b_L_sortIntoSets 21 = .ok (.invokestatic 75, 3) := by decide +kernel
theorem d_L_sortIntoSets_24 : decode b_L_sortIntoSets 24 = .ok (.aload_n 0, 1) := by decide +kernel
theorem d_L_sortIntoSets_25 : decode b_L_sortIntoSets 25 = .ok (.getfield 34, 3) := by decide +kernel
theorem d_L_sortIntoSets_28 : decode b_L_sortIntoSets 28 = .ok (.lconst 0, 1) := by decide +kernel
theorem d_L_sortIntoSets_29 : decode b_L_sortIntoSets 29 = .ok (.invokestatic 75, 3) := by decide +kernel
theorem d_L_sortIntoSets_32 : decode b_L_sortIntoSets 32 = .ok (.iconst 0, 1) := by decide +kernel
theorem d_L_sortIntoSets_33 : decode b_L_sortIntoSets 33 = .ok (.istore_n 1, 1) := by decide +kernel
theorem d_L_sortIntoSets_34 : decode b_L_sortIntoSets 34 = .ok (.iload_n 1, 1) := by decide +kernel
theorem d_L_sortIntoSets_35 : decode b_L_sortIntoSets 35 = .ok (.aload_n 0, 1) := by decide +kernel
theorem d_L_sortIntoSets_36 : decode b_L_sortIntoSets 36 = .ok (.getfield 43, 3) := by decide +kernel
theorem d_L_sortIntoSets_39 : decode b_L_sortIntoSets 39 = .ok (.if_icmp .ge 117, 3) := by decide +kernel
theorem d_L_sortIntoSets_42 : decode b_L_sortIntoSets 42 = .ok (.aload_n 0, 1) := by decide +kernel
theorem d_L_sortIntoSets_43 : decode b_L_sortIntoSets 43 = .ok (.getfield 18, 3) := by decide +kernel
theorem d_L_sortIntoSets_46 : decode b_L_sortIntoSets 46 = .ok (.iload_n 1, 1) := by decide +kernel
theorem d_L_sortIntoSets_47 : decode b_L_sortIntoSets 47 = .ok (.iaload, 1) := by decide +kernel
theorem d_L_sortIntoSets_48 : decode b_L_sortIntoSets 48 = .ok (.istore_n 2, 1) := by decide +kernel
theorem d_L_sortIntoSets_49 : decode b_L_sortIntoSets 49 = .ok (.aload_n 0, 1) := by decide +kernel
theorem d_L_sortIntoSets_50 : decode b_L_sortIntoSets 50 = .ok (.getfield 21, 3) := by decide +kernel
theorem d_L_sortIntoSets_53 : decode b_L_sortIntoSets 53 = .ok (.iload_n 2, 1) := by decide +kernel
theorem d_L_sortIntoSets_54 : decode b_L_sortIntoSets 54 = .ok (.iload_n 1, 1) := by decide +kernel
theorem d_L_sortIntoSets_55 : decode b_L_sortIntoSets 55 = .ok (.iastore, 1) := by decide +kernel
theorem d_L_sortIntoSets_56 : decode b_L_sortIntoSets 56 = .ok (.aload_n 0, 1) := by decide +kernel
theorem d_L_sortIntoSets_57 : decode b_L_sortIntoSets 57 = .ok (.getfield 24, 3) := by decide +kernel
theorem d_L_sortIntoSets_60 : decode b_L_sortIntoSets 60 = .ok (.aload_n 0, 1) := by decide +kernel
theorem d_L_sortIntoSets_61 : decode b_L_sortIntoSets 61 = .ok (.getfield 9, 3) := by decide +kernel
theorem d_L_sortIntoSets_64 : decode b_L_sortIntoSets 64 = .ok (.iload_n 2, 1) := by decide +kernel
theorem d_L_sortIntoSets_65 : decode b_L_sortIntoSets 65 = .ok (.iaload, 1) := by decide +kernel
theorem d_L_sortIntoSets_66 : decode b_L_sortIntoSets 66 = .ok (.dup2, 1) := by decide +kernel
theorem d_L_sortIntoSets_67 : decode b_L_sortIntoSets 67 = .ok (.laload, 1) := by decide +kernel
theorem d_L_sortIntoSets_68 : decode b_L_sortIntoSets 68 = .ok (.iload_n 1, 1) := by decide +kernel
theorem d_L_sortIntoSets_69 : decode b_L_sortIntoSets 69 = .ok (.invokestatic 81, 3) := by decide +kernel
theorem d_L_sortIntoSets_72 : decode b_L_sortIntoSets 72 = .ok (.lor, 1) := by decide +kernel
theorem d_L_sortIntoSets_73 : decode b_L_sortIntoSets 73 = .ok (.lastore, 1) := by decide +kernel
theorem d_L_sortIntoSets_74 : decode b_L_sortIntoSets 74 = .ok (.aload_n 0, 1) := by decide +kernel
theorem d_L_sortIntoSets_75 : decode b_L_sortIntoSets 75 = .ok (.getfield 28, 3) := by decide +kernel
theorem d_L_sortIntoSets_78 : decode b_L_sortIntoSets 78 = .ok (.aload_n 0, 1) := by decide +kernel
theorem d_L_sortIntoSets_79 : decode b_L_sortIntoSets 79 = .ok (.getfield 9, 3) := by decide +kernel
theorem d_L_sortIntoSets_82 : decode b_L_sortIntoSets 82 = .ok (.iload_n 2, 1) := by decide +kernel
theorem d_L_sortIntoSets_83 : decode b_L_sortIntoSets 83 = .ok (.iaload, 1) := by decide +kernel
theorem d_L_sortIntoSets_84 : decode b_L_sortIntoSets 84 = .ok (.dup2, 1) := by decide +kernel
theorem d_L_sortIntoSets_85 : decode b_L_sortIntoSets 85 = .ok (.laload, 1) := by decide +kernel
theorem d_L_sortIntoSets_86 : decode b_L_sortIntoSets 86 = .ok (.iload_n 1, 1) := by decide +kernel
theorem d_L_sortIntoSets_87 : decode b_L_sortIntoSets 87 = .ok (.invokestatic 85, 3) := by decide +kernel
theorem d_L_sortIntoSets_90 : decode b_L_sortIntoSets 90 = .ok (.lor, 1) := by decide +kernel
theorem d_L_sortIntoSets_91 : decode b_L_sortIntoSets 91 = .ok (.lastore, 1) := by decide +kernel
theorem d_L_sortIntoSets_92 : decode b_L_sortIntoSets 92 = .ok (.iconst 0, 1) := by decide +kernel
theorem d_L_sortIntoSets_93 : decode b_L_sortIntoSets 93 = .ok (.istore_n 3, 1) := by decide +kernel
theorem d_L_sortIntoSets_94 : decode b_L_sortIntoSets 94 = .ok (.iload_n 3, 1) := by decide +kernel
theorem d_L_sortIntoSets_95 : decode b_L_sortIntoSets 95 = .ok (.aload_n 0, 1) := by decide +kernel
theorem d_L_sortIntoSets_96 : decode b_L_sortIntoSets 96 = .ok (.getfield 9, 3) := by decide +kernel
theorem d_L_sortIntoSets_99 : decode b_L_sortIntoSets 99 = .ok (.iload_n 2, 1) := by decide +kernel
theorem d_L_sortIntoSets_100 : decode b_L_sortIntoSets 100 = .ok (.iaload, 1) := by decide +kernel
theorem d_L_sortIntoSets_101 : decode b_L_sortIntoSets 101 = .ok (.if_icmp .ge 49, 3) := by decide +kernel
theorem d_L_sortIntoSets_104 : decode b_L_sortIntoSets 104 = .ok (.iload_n 3, 1) := by decide +kernel
theorem d_L_sortIntoSets_105 : decode b_L_sortIntoSets 105 = .ok (.aload_n 0, 1) := by decide +kernel
theorem d_L_sortIntoSets_106 : decode b_L_sortIntoSets 106 = .ok (.iload_n 2, 1) := by decide +kernel
theorem d_L_sortIntoSets_107 : decode b_L_sortIntoSets 107 = .ok (.iload_n 3, 1) := by decide +kernel
theorem d_L_sortIntoSets_108 : decode b_L_sortIntoSets 108 = .ok (.invokevirtual 71, 3) := by decide +kernel
theorem d_L_sortIntoSets_111 : decode b_L_sortIntoSets 111 = .ok (.invokestatic 88, 3) := by decide +kernel
theorem d_L_sortIntoSets_114 : decode b_L_sortIntoSets 114 = .ok (.istore 4, 2) := by decide +kernel
theorem d_L_sortIntoSets_116 : decode b_L_sortIntoSets 116 = .ok (.aload_n 0, 1) := by decide +kernel
theorem d_L_sortIntoSets_117 : decode b_L_sortIntoSets 117 = .ok (.getfield 31, 3) := by decide +kernel
theorem d_L_sortIntoSets_120 : decode b_L_sortIntoSets 120 = .ok (.iload 4, 2) := by decide +kernel
theorem d_L_sortIntoSets_122 : decode b_L_sortIntoSets 122 = .ok (.dup2, 1) := by decide +kernel
theorem d_L_sortIntoSets_123 : decode b_L_sortIntoSets 123 = .ok (.laload, 1) := by decide +kernel
theorem d_L_sortIntoSets_124 : decode b_L_sortIntoSets 124 = .ok (.iload_n 1, 1) := by decide +kernel
theorem d_L_sortIntoSets_125 : decode b_L_sortIntoSets 125 = .ok (.invokestatic 81, 3) := by decide +kernel
theorem d_L_sortIntoSets_128 : decode b_L_sortIntoSets 128 = .ok (.lor, 1) := by decide +kernel
theorem d_L_sortIntoSets_129 : decode b_L_sortIntoSets 129 = .ok (.lastore, 1) := by decide +kernel
theorem d_L_sortIntoSets_130 : decode b_L_sortIntoSets 130 = .ok (.aload_n 0, 1) := by decide +kernel
theorem d_L_sortIntoSets_131 : decode b_L_sortIntoSets 131 = .ok (.getfield 34, 3) := by decide +kernel
theorem d_L_sortIntoSets_134 : decode b_L_sortIntoSets 134 = .ok (.iload 4, 2) := by decide +kernel
theorem d_L_sortIntoSets_136 : decode b_L_sortIntoSets 136 = .ok (.dup2, 1) := by decide +kernel
theorem d_L_sortIntoSets_137 : decode b_L_sortIntoSets 137 = .ok (.laload, 1) := by decide +kernel
theorem d_L_sortIntoSets_138 : decode b_L_sortIntoSets 138 = .ok (.iload_n 1, 1) := by decide +kernel
theorem d_L_sortIntoSets_139 : decode b_L_sortIntoSets 139 = .ok (.invokestatic 85, 3) := by decide +kernel
theorem d_L_sortIntoSets_142 : decode b_L_sortIntoSets 142 = .ok (.lor, 1) := by decide +kernel
theorem d_L_sortIntoSets_143 : decode b_L_sortIntoSets 143 = .ok (.lastore, 1) := by decide +kernel
theorem d_L_sortIntoSets_144 : decode b_L_sortIntoSets 144 = .ok (.iinc 3 1, 3) := by decide +kernel
theorem d_L_sortIntoSets_147 : decode b_L_sortIntoSets 147 = .ok (.goto (-53), 3) := by decide +kernel
theorem d_L_sortIntoSets_150 : decode b_L_sortIntoSets 150 = .ok (.iinc 1 1, 3) := by decide +kernel
theorem d_L_sortIntoSets_153 : decode b_L_sortIntoSets 153 = .ok (.goto (-119), 3) := by decide +kernel
theorem d_L_sortIntoSets_156 : decode b_L_sortIntoSets 156 = .ok (.return_, 1) := by decide +kernel
theorem d_L_wordFromCollected_0 : decode b_L_wordFromCollected 0 = .ok (.aload_n 0, 1) := by decide +kernel
theorem d_L_wordFromCollected_1 : decode b_L_wordFromCollected 1 = .ok (.getfield 47, 3) := by decide +kernel
theorem d_L_wordFromCollected_4 : decode b_L_wordFromCollected 4 = .ok (.iconst 2, 1) := by decide +kernel
theorem d_L_wordFromCollected_5 : decode b_L_wordFromCollected 5 = .ok (.if_icmp .lt 30, 3) := by decide +kernel
theorem d_L_wordFromCollected_8 : decode b_L_wordFromCollected 8 = .ok (.iload_n 1, 1) := by decide +kernel
theorem d_L_wordFromCollected_9 : decode b_L_wordFromCollected 9 = .ok (.ifCond .lt 26, 3) := by decide +kernel
theorem d_L_wordFromCollected_12 : decode b_L_wordFromCollected 12 = .ok (.iload_n 1, 1) := by decide +kernel
theorem d_L_wordFromCollected_13 : decode b_L_wordFromCollected 13 = .ok (.sipush 1000, 3) := by decide +kernel
theorem d_L_wordFromCollected_16 : decode b_L_wordFromCollected 16 = .ok (.if_icmp .gt 19, 3) := by decide +kernel
theorem d_L_wordFromCollected_19 : decode b_L_wordFromCollected 19 = .ok (.aload_n 0, 1) := by decide +kernel
theorem d_L_wordFromCollected_20 : decode b_L_wordFromCollected 20 = .ok (.getfield 43, 3) := by decide +kernel
theorem d_L_wordFromCollected_23 : decode b_L_wordFromCollected 23 = .ok (.bipush 80, 2) := by decide +kernel
theorem d_L_wordFromCollected_25 : decode b_L_wordFromCollected 25 = .ok (.if_icmp .ge 10, 3) := by decide +kernel
theorem d_L_wordFromCollected_28 : decode b_L_wordFromCollected 28 = .ok (.aload_n 0, 1) := by decide +kernel
theorem d_L_wordFromCollected_29 : decode b_L_wordFromCollected 29 = .ok (.invokevirtual 50, 3) := by decide +kernel
theorem d_L_wordFromCollected_32 : decode b_L_wordFromCollected 32 = .ok (.ifCond .eq 5, 3) := by decide +kernel
theorem d_L_wordFromCollected_35 : decode b_L_wordFromCollected 35 = .ok (.iconst (-1), 1) := by decide +kernel
theorem d_L_wordFromCollected_36 : decode b_L_wordFromCollected 36 = .ok (.ireturn, 1) := by decide +kernel
theorem d_L_wordFromCollected_37 : decode b_L_wordFromCollected 37 = .ok (.aload_n 0, 1) := by decide +kernel
theorem d_L_wordFromCollected_38 : decode b_L_wordFromCollected 38 = .ok (.getfield 43, 3) := by decide +kernel
theorem d_L_wordFromCollected_41 : decode b_L_wordFromCollected 41 = .ok (.istore_n 2, 1) := by decide +kernel
theorem d_L_wordFromCollected_42 : decode b_L_wordFromCollected 42 = .ok (.aload_n 0, 1) := by decide +kernel
theorem d_L_wordFromCollected_43 : decode b_L_wordFromCollected 43 = .ok (.getfield 9, 3) := by decide +kernel
theorem d_L_wordFromCollected_46 : decode b_L_wordFromCollected 46 = .ok (.iload_n 2, 1) := by decide +kernel
theorem d_L_wordFromCollected_47 : decode b_L_wordFromCollected 47 = .ok (.aload_n 0, 1) := by decide +kernel
theorem d_L_wordFromCollected_48 : decode b_L_wordFromCollected 48 = .ok (.getfield 47, 3) := by decide +kernel
theorem d_L_wordFromCollected_51 : decode b_L_wordFromCollected 51 = .ok (.iastore, 1) := by decide +kernel
theorem d_L_wordFromCollected_52 : decode b_L_wordFromCollected 52 = .ok (.aload_n 0, 1) := by decide +kernel
theorem d_L_wordFromCollected_53 : decode b_L_wordFromCollected 53 = .ok (.getfield 15, 3) := by decide +kernel
theorem d_L_wordFromCollected_56 : decode b_L_wordFromCollected 56 = .ok (.iload_n 2, 1) := by decide +kernel
theorem d_L_wordFromCollected_57 : decode b_L_wordFromCollected 57 = .ok (.iload_n 1, 1) := by decide +kernel
theorem d_L_wordFromCollected_58 : decode b_L_wordFromCollected 58 = .ok (.iastore, 1) := by decide +kernel
theorem d_L_wordFromCollected_59 : decode b_L_wordFromCollected 59 = .ok (.aload_n 0, 1) := by decide +kernel
theorem d_L_wordFromCollected_60 : decode b_L_wordFromCollected 60 = .ok (.getfield 40, 3) := by decide +kernel
theorem d_L_wordFromCollected_63 : decode b_L_wordFromCollected 63 = .ok (.iconst 0, 1) := by decide +kernel
theorem d_L_wordFromCollected_64 : decode b_L_wordFromCollected 64 = .ok (.aload_n 0, 1) := by decide +kernel
theorem d_L_wordFromCollected_65 : decode b_L_wordFromCollected 65 = .ok (.getfield 37, 3) := by decide +kernel
theorem d_L_wordFromCollected_68 : decode b_L_wordFromCollected 68 = .ok (.iload_n 2, 1) := by decide +kernel
theorem d_L_wordFromCollected_69 : decode b_L_wordFromCollected 69 = .ok (.bipush 6, 2) := by decide +kernel
theorem d_L_wordFromCollected_71 : decode b_L_wordFromCollected 71 = .ok (.imul, 1) := by decide +kernel
theorem d_L_wordFromCollected_72 : decode b_L_wordFromCollected 72 = .ok (.aload_n 0, 1) := by decide +kernel
theorem d_L_wordFromCollected_73 : decode b_L_wordFromCollected 73 = .ok (.getfield 47, 3) := by decide +kernel
theorem d_L_wordFromCollected_76 : decode b_L_wordFromCollected 76 = .ok (.invokestatic 54, 3) := by decide +kernel
theorem d_L_wordFromCollected_79 : decode b_L_wordFromCollected 79 = .ok (.aload_n 0, 1) := by decide +kernel
theorem d_L_wordFromCollected_80 : decode b_L_wordFromCollected 80 = .ok (.iload_n 2, 1) := by decide +kernel
theorem d_L_wordFromCollected_81 : decode b_L_wordFromCollected 81 = .ok (.invokevirtual 60, 3) := by decide +kernel
theorem d_L_wordFromCollected_84 : decode b_L_wordFromCollected 84 = .ok (.aload_n 0, 1) := by decide +kernel
theorem d_L_wordFromCollected_85 : decode b_L_wordFromCollected 85 = .ok (.dup, 1) := by decide +kernel
theorem d_L_wordFromCollected_86 : decode b_L_wordFromCollected 86 = .ok (.getfield 43, 3) := by decide +kernel
theorem d_L_wordFromCollected_89 : decode b_L_wordFromCollected 89 = .ok (.iconst 1, 1) := by decide +kernel
theorem d_L_wordFromCollected_90 : decode b_L_wordFromCollected 90 = .ok (.iadd, 1) := by decide +kernel
theorem d_L_wordFromCollected_91 : decode b_L_wordFromCollected 91 = .ok (.putfield 43, 3) := by decide +kernel
theorem d_L_wordFromCollected_94 : decode b_L_wordFromCollected 94 = .ok (.aload_n 0, 1) := by decide +kernel
theorem d_L_wordFromCollected_95 : decode b_L_wordFromCollected 95 = .ok (.invokevirtual 64, 3) := by decide +kernel
theorem d_L_wordFromCollected_98 : decode b_L_wordFromCollected 98 = .ok (.iload_n 2, 1) := by decide +kernel
theorem d_L_wordFromCollected_99 : decode b_L_wordFromCollected 99 = .ok (.ireturn, 1) := by decide +kernel
theorem d_F_forget_0 : decode b_F_forget 0 = .ok (.aload_n 0, 1) := by decide +kernel
theorem d_F_forget_1 : decode b_F_forget 1 = .ok (.iconst (-1), 1) := by decide +kernel
theorem d_F_forget_2 : decode b_F_forget 2 = .ok (.putfield 15, 3) := by decide +kernel
theorem d_F_forget_5 : decode b_F_forget 5 = .ok (.return_, 1) := by decide +kernel
theorem d_F_keep_0 : decode b_F_keep 0 = .ok (.aload_n 1, 1) := by decide +kernel
theorem d_F_keep_1 : decode b_F_keep 1 = .ok (.iconst 0, 1) := by decide +kernel
theorem d_F_keep_2 : decode b_F_keep 2 = .ok (.aload_n 0, 1) := by decide +kernel
theorem d_F_keep_3 : decode b_F_keep 3 = .ok (.getfield 9, 3) := by decide +kernel
theorem d_F_keep_6 : decode b_F_keep 6 = .ok (.iconst 0, 1) := by decide +kernel
theorem d_F_keep_7 : decode b_F_keep 7 = .ok (.aload_n 0, 1) := by decide +kernel
theorem d_F_keep_8 : decode b_F_keep 8 = .ok (.getfield 19, 3) := by decide +kernel
theorem d_F_keep_11 : decode b_F_keep 11 = .ok (.getfield 27, 3) := by decide +kernel
theorem d_F_keep_14 : decode b_F_keep 14 = .ok (.invokestatic 32, 3) := by decide +kernel
theorem d_F_keep_17 : decode b_F_keep 17 = .ok (.aload_n 0, 1) := by decide +kernel
theorem d_F_keep_18 : decode b_F_keep 18 = .ok (.iload_n 2, 1) := by decide +kernel
theorem d_F_keep_19 : decode b_F_keep 19 = .ok (.putfield 15, 3) := by decide +kernel
theorem d_F_keep_22 : decode b_F_keep 22 = .ok (.return_, 1) := by decide +kernel
theorem d_F_wordOf_0 : decode b_F_wordOf 0 = .ok (.aload_n 0, 1) := by decide +kernel
theorem d_F_wordOf_1 : decode b_F_wordOf 1 = .ok (.getfield 15, 3) := by decide +kernel
theorem d_F_wordOf_4 : decode b_F_wordOf 4 = .ok (.iconst (-1), 1) := by decide +kernel
theorem d_F_wordOf_5 : decode b_F_wordOf 5 = .ok (.if_icmp .ne 7, 3) := by decide +kernel
theorem d_F_wordOf_8 : decode b_F_wordOf 8 = .ok (.iconst (-1), 1) := by decide +kernel
theorem d_F_wordOf_9 : decode b_F_wordOf 9 = .ok (.goto 9, 3) := by decide +kernel
theorem d_F_wordOf_12 : decode b_F_wordOf 12 = .ok (.aload_n 0, 1) := by decide +kernel
theorem d_F_wordOf_13 : decode b_F_wordOf 13 = .ok (.getfield 9, 3) := by decide +kernel
theorem d_F_wordOf_16 : decode b_F_wordOf 16 = .ok (.iload_n 1, 1) := by decide +kernel
theorem d_F_wordOf_17 : decode b_F_wordOf 17 = .ok (.iaload, 1) := by decide +kernel
theorem d_F_wordOf_18 : decode b_F_wordOf 18 = .ok (.ireturn, 1) := by decide +kernel
theorem d_F_letterBy_0 : decode b_F_letterBy 0 = .ok (.aload_n 0, 1) := by decide +kernel
theorem d_F_letterBy_1 : decode b_F_letterBy 1 = .ok (.getfield 19, 3) := by decide +kernel
theorem d_F_letterBy_4 : decode b_F_letterBy 4 = .ok (.iload_n 1, 1) := by decide +kernel
theorem d_F_letterBy_5 : decode b_F_letterBy 5 = .ok (.iload_n 2, 1) := by decide +kernel
theorem d_F_letterBy_6 : decode b_F_letterBy 6 = .ok (.invokevirtual 42, 3) := by decide +kernel
theorem d_F_letterBy_9 : decode b_F_letterBy 9 = .ok (.istore_n 3, 1) := by decide +kernel
theorem d_F_letterBy_10 : decode b_F_letterBy 10 = .ok (.aload_n 0, 1) := by decide +kernel
theorem d_F_letterBy_11 : decode b_F_letterBy 11 = .ok (.getfield 15, 3) := by decide +kernel
theorem d_F_letterBy_14 : decode b_F_letterBy 14 = .ok (.iconst (-1), 1) := by decide +kernel
theorem d_F_letterBy_15 : decode b_F_letterBy 15 = .ok (.if_icmp .eq 8, 3) := by decide +kernel
theorem d_F_letterBy_18 : decode b_F_letterBy 18 = .ok (.iload_n 3, 1) := by decide +kernel
theorem d_F_letterBy_19 : decode b_F_letterBy 19 = .ok (.iconst (-1), 1) := by decide +kernel
theorem d_F_letterBy_20 : decode b_F_letterBy 20 = .ok (.if_icmp .ne 5, 3) := by decide +kernel
theorem d_F_letterBy_23 : decode b_F_letterBy 23 = .ok (.iconst 0, 1) := by decide +kernel
theorem d_F_letterBy_24 : decode b_F_letterBy 24 = .ok (.ireturn, 1) := by decide +kernel
theorem d_F_letterBy_25 : decode b_F_letterBy 25 = .ok (.aload_n 0, 1) := by decide +kernel
theorem d_F_letterBy_26 : decode b_F_letterBy 26 = .ok (.getfield 23, 3) := by decide +kernel
theorem d_F_letterBy_29 : decode b_F_letterBy 29 = .ok (.aload_n 0, 1) := by decide +kernel
theorem d_F_letterBy_30 : decode b_F_letterBy 30 = .ok (.getfield 9, 3) := by decide +kernel
theorem d_F_letterBy_33 : decode b_F_letterBy 33 = .ok (.iload_n 3, 1) := by decide +kernel
theorem d_F_letterBy_34 : decode b_F_letterBy 34 = .ok (.iaload, 1) := by decide +kernel
theorem d_F_letterBy_35 : decode b_F_letterBy 35 = .ok (.aload_n 0, 1) := by decide +kernel
theorem d_F_letterBy_36 : decode b_F_letterBy 36 = .ok (.getfield 19, 3) := by decide +kernel
theorem d_F_letterBy_39 : decode b_F_letterBy 39 = .ok (.iload_n 1, 1) := by decide +kernel
theorem d_F_letterBy_40 : decode b_F_letterBy 40 = .ok (.iload_n 2, 1) := by decide +kernel
theorem d_F_letterBy_41 : decode b_F_letterBy 41 = .ok (.invokevirtual 45, 3) := by decide +kernel
theorem d_F_letterBy_44 : decode b_F_letterBy 44 = .ok (.invokevirtual 48, 3) := by decide +kernel
theorem d_F_letterBy_47 : decode b_F_letterBy 47 = .ok (.ireturn, 1) := by decide +kernel
theorem d_F_letterAt_0 : decode b_F_letterAt 0 = .ok (.aload_n 0, 1) := by decide +kernel
theorem d_F_letterAt_1 : decode b_F_letterAt 1 = .ok (.iload_n 1, 1) := by decide +kernel
theorem d_F_letterAt_2 : decode b_F_letterAt 2 = .ok (.iconst 0, 1) := by decide +kernel
theorem d_F_letterAt_3 : decode b_F_letterAt 3 = .ok (.invokevirtual 38, 3) := by decide +kernel
theorem d_F_letterAt_6 : decode b_F_letterAt 6 = .ok (.istore_n 2, 1) := by decide +kernel
theorem d_F_letterAt_7 : decode b_F_letterAt 7 = .ok (.iload_n 2, 1) := by decide +kernel
theorem d_F_letterAt_8 : decode b_F_letterAt 8 = .ok (.ifCond .ne 12, 3) := by decide +kernel
theorem d_F_letterAt_11 : decode b_F_letterAt 11 = .ok (.aload_n 0, 1) := by decide +kernel
theorem d_F_letterAt_12 : decode b_F_letterAt 12 = .ok (.iload_n 1, 1) := by decide +kernel
theorem d_F_letterAt_13 : decode b_F_letterAt 13 = .ok (.iconst 1, 1) := by decide +kernel
theorem d_F_letterAt_14 : decode b_F_letterAt 14 = .ok (.invokevirtual 38, 3) := by decide +kernel
theorem d_F_letterAt_17 : decode b_F_letterAt 17 = .ok (.goto 4, 3) := by decide +kernel
theorem d_F_letterAt_20 : decode b_F_letterAt 20 = .ok (.iload_n 2, 1) := by decide +kernel
theorem d_F_letterAt_21 : decode b_F_letterAt 21 = .ok (.ireturn, 1) := by decide +kernel
theorem d_F_agrees_0 : decode b_F_agrees 0 = .ok (.iload_n 0, 1) := by decide +kernel
end
section
theorem d_F_agrees_1 : decode b_F_agrees 1 = .ok (.ifCond .eq 8, 3) := by decide +kernel
theorem d_F_agrees_4 : decode b_F_agrees 4 = .ok (.iload_n 0, 1) := by decide +kernel
theorem d_F_agrees_5 : decode b_F_agrees 5 = .ok (.iload_n 1, 1) := by decide +kernel
theorem d_F_agrees_6 : decode b_F_agrees 6 = .ok (.if_icmp .ne 7, 3) := by decide +kernel
theorem d_F_agrees_9 : decode b_F_agrees 9 = .ok (.iconst 1, 1) := by decide +kernel
theorem d_F_agrees_10 : decode b_F_agrees 10 = .ok (.goto 4, 3) := by decide +kernel
theorem d_F_agrees_13 : decode b_F_agrees 13 = .ok (.iconst 0, 1) := by decide +kernel
theorem d_F_agrees_14 : decode b_F_agrees 14 = .ok (.ireturn, 1) := by decide +kernel
theorem d_F_holds_0 : decode b_F_holds 0 = .ok (.aload_n 0, 1) := by decide +kernel
theorem d_F_holds_1 : decode b_F_holds 1 = .ok (.getfield 19, 3) := by decide +kernel
theorem d_F_holds_4 : decode b_F_holds 4 = .ok (.getfield 57, 3) := by decide +kernel
theorem d_F_holds_7 : decode b_F_holds 7 = .ok (.iload_n 1, 1) := by decide +kernel
theorem d_F_holds_8 : decode b_F_holds 8 = .ok (.iaload, 1) := by decide +kernel
theorem d_F_holds_9 : decode b_F_holds 9 = .ok (.iconst (-1), 1) := by decide +kernel
theorem d_F_holds_10 : decode b_F_holds 10 = .ok (.if_icmp .eq 23, 3) := by decide +kernel
theorem d_F_holds_13 : decode b_F_holds 13 = .ok (.aload_n 0, 1) := by decide +kernel
theorem d_F_holds_14 : decode b_F_holds 14 = .ok (.getfield 19, 3) := by decide +kernel
theorem d_F_holds_17 : decode b_F_holds 17 = .ok (.getfield 57, 3) := by decide +kernel
theorem d_F_holds_20 : decode b_F_holds 20 = .ok (.iload_n 1, 1) := by decide +kernel
theorem d_F_holds_21 : decode b_F_holds 21 = .ok (.iaload, 1) := by decide +kernel
theorem d_F_holds_22 : decode b_F_holds 22 = .ok (.aload_n 0, 1) := by decide +kernel
theorem d_F_holds_23 : decode b_F_holds 23 = .ok (.getfield 9, 3) := by decide +kernel
theorem d_F_holds_26 : decode b_F_holds 26 = .ok (.iload_n 1, 1) := by decide +kernel
theorem d_F_holds_27 : decode b_F_holds 27 = .ok (.iaload, 1) := by decide +kernel
theorem d_F_holds_28 : decode b_F_holds 28 = .ok (.if_icmp .eq 5, 3) := by decide +kernel
theorem d_F_holds_31 : decode b_F_holds 31 = .ok (.iconst 0, 1) := by decide +kernel
theorem d_F_holds_32 : decode b_F_holds 32 = .ok (.ireturn, 1) := by decide +kernel
theorem d_F_holds_33 : decode b_F_holds 33 = .ok (.iconst 1, 1) := by decide +kernel
theorem d_F_holds_34 : decode b_F_holds 34 = .ok (.aload_n 0, 1) := by decide +kernel
theorem d_F_holds_35 : decode b_F_holds 35 = .ok (.getfield 19, 3) := by decide +kernel
theorem d_F_holds_38 : decode b_F_holds 38 = .ok (.getfield 60, 3) := by decide +kernel
theorem d_F_holds_41 : decode b_F_holds 41 = .ok (.iload_n 1, 1) := by decide +kernel
theorem d_F_holds_42 : decode b_F_holds 42 = .ok (.iaload, 1) := by decide +kernel
theorem d_F_holds_43 : decode b_F_holds 43 = .ok (.isub, 1) := by decide +kernel
theorem d_F_holds_44 : decode b_F_holds 44 = .ok (.istore_n 2, 1) := by decide +kernel
theorem d_F_holds_45 : decode b_F_holds 45 = .ok (.iconst 0, 1) := by decide +kernel
theorem d_F_holds_46 : decode b_F_holds 46 = .ok (.istore_n 3, 1) := by decide +kernel
theorem d_F_holds_47 : decode b_F_holds 47 = .ok (.iload_n 3, 1) := by decide +kernel
theorem d_F_holds_48 : decode b_F_holds 48 = .ok (.aload_n 0, 1) := by decide +kernel
theorem d_F_holds_49 : decode b_F_holds 49 = .ok (.getfield 19, 3) := by decide +kernel
theorem d_F_holds_52 : decode b_F_holds 52 = .ok (.getfield 63, 3) := by decide +kernel
theorem d_F_holds_55 : decode b_F_holds 55 = .ok (.iload_n 1, 1) := by decide +kernel
theorem d_F_holds_56 : decode b_F_holds 56 = .ok (.iaload, 1) := by decide +kernel
theorem d_F_holds_57 : decode b_F_holds 57 = .ok (.if_icmp .ge 71, 3) := by decide +kernel
theorem d_F_holds_60 : decode b_F_holds 60 = .ok (.aload_n 0, 1) := by decide +kernel
theorem d_F_holds_61 : decode b_F_holds 61 = .ok (.getfield 19, 3) := by decide +kernel
theorem d_F_holds_64 : decode b_F_holds 64 = .ok (.iload_n 1, 1) := by decide +kernel
theorem d_F_holds_65 : decode b_F_holds 65 = .ok (.iload_n 3, 1) := by decide +kernel
theorem d_F_holds_66 : decode b_F_holds 66 = .ok (.invokevirtual 66, 3) := by decide +kernel
theorem d_F_holds_69 : decode b_F_holds 69 = .ok (.istore 4, 2) := by decide +kernel
theorem d_F_holds_71 : decode b_F_holds 71 = .ok (.aload_n 0, 1) := by decide +kernel
theorem d_F_holds_72 : decode b_F_holds 72 = .ok (.getfield 23, 3) := by decide +kernel
theorem d_F_holds_75 : decode b_F_holds 75 = .ok (.aload_n 0, 1) := by decide +kernel
theorem d_F_holds_76 : decode b_F_holds 76 = .ok (.getfield 9, 3) := by decide +kernel
theorem d_F_holds_79 : decode b_F_holds 79 = .ok (.iload_n 1, 1) := by decide +kernel
theorem d_F_holds_80 : decode b_F_holds 80 = .ok (.iaload, 1) := by decide +kernel
theorem d_F_holds_81 : decode b_F_holds 81 = .ok (.iload_n 3, 1) := by decide +kernel
theorem d_F_holds_82 : decode b_F_holds 82 = .ok (.invokevirtual 48, 3) := by decide +kernel
theorem d_F_holds_85 : decode b_F_holds 85 = .ok (.istore 5, 2) := by decide +kernel
theorem d_F_holds_87 : decode b_F_holds 87 = .ok (.aload_n 0, 1) := by decide +kernel
theorem d_F_holds_88 : decode b_F_holds 88 = .ok (.getfield 19, 3) := by decide +kernel
theorem d_F_holds_91 : decode b_F_holds 91 = .ok (.getfield 69, 3) := by decide +kernel
theorem d_F_holds_94 : decode b_F_holds 94 = .ok (.iload 4, 2) := by decide +kernel
theorem d_F_holds_96 : decode b_F_holds 96 = .ok (.iaload, 1) := by decide +kernel
theorem d_F_holds_97 : decode b_F_holds 97 = .ok (.iload 5, 2) := by decide +kernel
theorem d_F_holds_99 : decode b_F_holds 99 = .ok (.invokestatic 72, 3) := by decide +kernel
theorem d_F_holds_102 : decode b_F_holds 102 = .ok (.ifCond .eq 18, 3) := by decide +kernel
theorem d_F_holds_105 : decode b_F_holds 105 = .ok (.aload_n 0, 1) := by decide +kernel
theorem d_F_holds_106 : decode b_F_holds 106 = .ok (.iload 4, 2) := by decide +kernel
theorem d_F_holds_108 : decode b_F_holds 108 = .ok (.iload_n 2, 1) := by decide +kernel
theorem d_F_holds_109 : decode b_F_holds 109 = .ok (.invokevirtual 38, 3) := by decide +kernel
theorem d_F_holds_112 : decode b_F_holds 112 = .ok (.iload 5, 2) := by decide +kernel
theorem d_F_holds_114 : decode b_F_holds 114 = .ok (.invokestatic 72, 3) := by decide +kernel
theorem d_F_holds_117 : decode b_F_holds 117 = .ok (.ifCond .ne 5, 3) := by decide +kernel
theorem d_F_holds_120 : decode b_F_holds 120 = .ok (.iconst 0, 1) := by decide +kernel
theorem d_F_holds_121 : decode b_F_holds 121 = .ok (.ireturn, 1) := by decide +kernel
theorem d_F_holds_122 : decode b_F_holds 122 = .ok (.iinc 3 1, 3) := by decide +kernel
theorem d_F_holds_125 : decode b_F_holds 125 = .ok (.goto (-78), 3) := by decide +kernel
theorem d_F_holds_128 : decode b_F_holds 128 = .ok (.iconst 1, 1) := by decide +kernel
theorem d_F_holds_129 : decode b_F_holds 129 = .ok (.ireturn, 1) := by decide +kernel
theorem d_F_firstFault_0 : decode b_F_firstFault 0 = .ok (.aload_n 0, 1) := by decide +kernel
theorem d_F_firstFault_1 : decode b_F_firstFault 1 = .ok (.getfield 15, 3) := by decide +kernel
theorem d_F_firstFault_4 : decode b_F_firstFault 4 = .ok (.iconst (-1), 1) := by decide +kernel
theorem d_F_firstFault_5 : decode b_F_firstFault 5 = .ok (.if_icmp .ne 5, 3) := by decide +kernel
theorem d_F_firstFault_8 : decode b_F_firstFault 8 = .ok (.iconst (-1), 1) := by decide +kernel
theorem d_F_firstFault_9 : decode b_F_firstFault 9 = .ok (.ireturn, 1) := by decide +kernel
theorem d_F_firstFault_10 : decode b_F_firstFault 10 = .ok (.iconst 0, 1) := by decide +kernel
theorem d_F_firstFault_11 : decode b_F_firstFault 11 = .ok (.istore_n 1, 1) := by decide +kernel
theorem d_F_firstFault_12 : decode b_F_firstFault 12 = .ok (.iload_n 1, 1) := by decide +kernel
theorem d_F_firstFault_13 : decode b_F_firstFault 13 = .ok (.aload_n 0, 1) := by decide +kernel
theorem d_F_firstFault_14 : decode b_F_firstFault 14 = .ok (.getfield 19, 3) := by decide +kernel
theorem d_F_firstFault_17 : decode b_F_firstFault 17 = .ok (.getfield 27, 3) := by decide +kernel
theorem d_F_firstFault_20 : decode b_F_firstFault 20 = .ok (.if_icmp .ge 21, 3) := by decide +kernel
theorem d_F_firstFault_23 : decode b_F_firstFault 23 = .ok (.aload_n 0, 1) := by decide +kernel
theorem d_F_firstFault_24 : decode b_F_firstFault 24 = .ok (.iload_n 1, 1) := by decide +kernel
theorem d_F_firstFault_25 : decode b_F_firstFault 25 = .ok (.invokevirtual 53, 3) := by decide +kernel
theorem d_F_firstFault_28 : decode b_F_firstFault 28 = .ok (.ifCond .ne 7, 3) := by decide +kernel
theorem d_F_firstFault_31 : decode b_F_firstFault 31 = .ok (.iconst 1, 1) := by decide +kernel
theorem d_F_firstFault_32 : decode b_F_firstFault 32 = .ok (.iload_n 1, 1) := by decide +kernel
theorem d_F_firstFault_33 : decode b_F_firstFault 33 = .ok (.iadd, 1) := by decide +kernel
theorem d_F_firstFault_34 : decode b_F_firstFault 34 = .ok (.ireturn, 1) := by decide +kernel
theorem d_F_firstFault_35 : decode b_F_firstFault 35 = .ok (.iinc 1 1, 3) := by decide +kernel
theorem d_F_firstFault_38 : decode b_F_firstFault 38 = .ok (.goto (-26), 3) := by decide +kernel
theorem d_F_firstFault_41 : decode b_F_firstFault 41 = .ok (.iconst 0, 1) := by decide +kernel
theorem d_F_firstFault_42 : decode b_F_firstFault 42 = .ok (.ireturn, 1) := by decide +kernel
theorem d_S_narrow_0 : decode b_S_narrow 0 = .ok (.aload_n 0, 1) := by decide +kernel
theorem d_S_narrow_1 : decode b_S_narrow 1 = .ok (.getfield 9, 3) := by decide +kernel
theorem d_S_narrow_4 : decode b_S_narrow 4 = .ok (.iload_n 1, 1) := by decide +kernel
theorem d_S_narrow_5 : decode b_S_narrow 5 = .ok (.dup2, 1) := by decide +kernel
theorem d_S_narrow_6 : decode b_S_narrow 6 = .ok (.laload, 1) := by decide +kernel
theorem d_S_narrow_7 : decode b_S_narrow 7 = .ok (.aload_n 0, 1) := by decide +kernel
theorem d_S_narrow_8 : decode b_S_narrow 8 = .ok (.getfield 26, 3) := by decide +kernel
theorem d_S_narrow_11 : decode b_S_narrow 11 = .ok (.getfield 126, 3) := by decide +kernel
theorem d_S_narrow_14 : decode b_S_narrow 14 = .ok (.iload_n 2, 1) := by decide +kernel
theorem d_S_narrow_15 : decode b_S_narrow 15 = .ok (.laload, 1) := by decide +kernel
theorem d_S_narrow_16 : decode b_S_narrow 16 = .ok (.land, 1) := by decide +kernel
theorem d_S_narrow_17 : decode b_S_narrow 17 = .ok (.lastore, 1) := by decide +kernel
theorem d_S_narrow_18 : decode b_S_narrow 18 = .ok (.aload_n 0, 1) := by decide +kernel
theorem d_S_narrow_19 : decode b_S_narrow 19 = .ok (.getfield 15, 3) := by decide +kernel
theorem d_S_narrow_22 : decode b_S_narrow 22 = .ok (.iload_n 1, 1) := by decide +kernel
theorem d_S_narrow_23 : decode b_S_narrow 23 = .ok (.dup2, 1) := by decide +kernel
theorem d_S_narrow_24 : decode b_S_narrow 24 = .ok (.laload, 1) := by decide +kernel
theorem d_S_narrow_25 : decode b_S_narrow 25 = .ok (.aload_n 0, 1) := by decide +kernel
theorem d_S_narrow_26 : decode b_S_narrow 26 = .ok (.getfield 26, 3) := by decide +kernel
theorem d_S_narrow_29 : decode b_S_narrow 29 = .ok (.getfield 129, 3) := by decide +kernel
theorem d_S_narrow_32 : decode b_S_narrow 32 = .ok (.iload_n 2, 1) := by decide +kernel
theorem d_S_narrow_33 : decode b_S_narrow 33 = .ok (.laload, 1) := by decide +kernel
theorem d_S_narrow_34 : decode b_S_narrow 34 = .ok (.land, 1) := by decide +kernel
theorem d_S_narrow_35 : decode b_S_narrow 35 = .ok (.lastore, 1) := by decide +kernel
theorem d_S_narrow_36 : decode b_S_narrow 36 = .ok (.return_, 1) := by decide +kernel
theorem d_S_openSlot_0 : decode b_S_openSlot 0 = .ok (.aload_n 0, 1) := by decide +kernel
theorem d_S_openSlot_1 : decode b_S_openSlot 1 = .ok (.getfield 22, 3) := by decide +kernel
theorem d_S_openSlot_4 : decode b_S_openSlot 4 = .ok (.getfield 88, 3) := by decide +kernel
theorem d_S_openSlot_7 : decode b_S_openSlot 7 = .ok (.iload_n 1, 1) := by decide +kernel
theorem d_S_openSlot_8 : decode b_S_openSlot 8 = .ok (.iaload, 1) := by decide +kernel
theorem d_S_openSlot_9 : decode b_S_openSlot 9 = .ok (.istore_n 2, 1) := by decide +kernel
theorem d_S_openSlot_10 : decode b_S_openSlot 10 = .ok (.aload_n 0, 1) := by decide +kernel
theorem d_S_openSlot_11 : decode b_S_openSlot 11 = .ok (.getfield 9, 3) := by decide +kernel
theorem d_S_openSlot_14 : decode b_S_openSlot 14 = .ok (.iload_n 1, 1) := by decide +kernel
theorem d_S_openSlot_15 : decode b_S_openSlot 15 = .ok (.aload_n 0, 1) := by decide +kernel
theorem d_S_openSlot_16 : decode b_S_openSlot 16 = .ok (.getfield 26, 3) := by decide +kernel
theorem d_S_openSlot_19 : decode b_S_openSlot 19 = .ok (.getfield 91, 3) := by decide +kernel
theorem d_S_openSlot_22 : decode b_S_openSlot 22 = .ok (.iload_n 2, 1) := by decide +kernel
theorem d_S_openSlot_23 : decode b_S_openSlot 23 = .ok (.laload, 1) := by decide +kernel
theorem d_S_openSlot_24 : decode b_S_openSlot 24 = .ok (.lastore, 1) := by decide +kernel
theorem d_S_openSlot_25 : decode b_S_openSlot 25 = .ok (.aload_n 0, 1) := by decide +kernel
theorem d_S_openSlot_26 : decode b_S_openSlot 26 = .ok (.getfield 15, 3) := by decide +kernel
theorem d_S_openSlot_29 : decode b_S_openSlot 29 = .ok (.iload_n 1, 1) := by decide +kernel
theorem d_S_openSlot_30 : decode b_S_openSlot 30 = .ok (.aload_n 0, 1) := by decide +kernel
theorem d_S_openSlot_31 : decode b_S_openSlot 31 = .ok (.getfield 26, 3) := by decide +kernel
theorem d_S_openSlot_34 : decode b_S_openSlot 34 = .ok (.getfield 96, 3) := by decide +kernel
theorem d_S_openSlot_37 : decode b_S_openSlot 37 = .ok (.iload_n 2, 1) := by decide +kernel
theorem d_S_openSlot_38 : decode b_S_openSlot 38 = .ok (.laload, 1) := by decide +kernel
theorem d_S_openSlot_39 : decode b_S_openSlot 39 = .ok (.lastore, 1) := by decide +kernel
theorem d_S_openSlot_40 : decode b_S_openSlot 40 = .ok (.iconst 0, 1) := by decide +kernel
theorem d_S_openSlot_41 : decode b_S_openSlot 41 = .ok (.istore_n 3, 1) := by decide +kernel
theorem d_S_openSlot_42 : decode b_S_openSlot 42 = .ok (.iload_n 3, 1) := by decide +kernel
theorem d_S_openSlot_43 : decode b_S_openSlot 43 = .ok (.iload_n 2, 1) := by decide +kernel
theorem d_S_openSlot_44 : decode b_S_openSlot 44 = .ok (.if_icmp .ge 44, 3) := by decide +kernel
theorem d_S_openSlot_47 : decode b_S_openSlot 47 = .ok (.aload_n 0, 1) := by decide +kernel
theorem d_S_openSlot_48 : decode b_S_openSlot 48 = .ok (.getfield 22, 3) := by decide +kernel
theorem d_S_openSlot_51 : decode b_S_openSlot 51 = .ok (.getfield 99, 3) := by decide +kernel
theorem d_S_openSlot_54 : decode b_S_openSlot 54 = .ok (.aload_n 0, 1) := by decide +kernel
theorem d_S_openSlot_55 : decode b_S_openSlot 55 = .ok (.getfield 22, 3) := by decide +kernel
theorem d_S_openSlot_58 : decode b_S_openSlot 58 = .ok (.iload_n 1, 1) := by decide +kernel
theorem d_S_openSlot_59 : decode b_S_openSlot 59 = .ok (.iload_n 3, 1) := by decide +kernel
theorem d_S_openSlot_60 : decode b_S_openSlot 60 = .ok (.invokevirtual 102, 3) := by decide +kernel
theorem d_S_openSlot_63 : decode b_S_openSlot 63 = .ok (.iaload, 1) := by decide +kernel
theorem d_S_openSlot_64 : decode b_S_openSlot 64 = .ok (.istore 4, 2) := by decide +kernel
theorem d_S_openSlot_66 : decode b_S_openSlot 66 = .ok (.iload 4, 2) := by decide +kernel
theorem d_S_openSlot_68 : decode b_S_openSlot 68 = .ok (.ifCond .eq 14, 3) := by decide +kernel
theorem d_S_openSlot_71 : decode b_S_openSlot 71 = .ok (.aload_n 0, 1) := by decide +kernel
theorem d_S_openSlot_72 : decode b_S_openSlot 72 = .ok (.iload_n 1, 1) := by decide +kernel
theorem d_S_openSlot_73 : decode b_S_openSlot 73 = .ok (.iload_n 3, 1) := by decide +kernel
theorem d_S_openSlot_74 : decode b_S_openSlot 74 = .ok (.iload 4, 2) := by decide +kernel
theorem d_S_openSlot_76 : decode b_S_openSlot 76 = .ok (.invokestatic 106, 3) := by decide +kernel
theorem d_S_openSlot_79 : decode b_S_openSlot 79 = .ok (.invokevirtual 109, 3) := by decide +kernel
theorem d_S_openSlot_82 : decode b_S_openSlot 82 = .ok (.iinc 3 1, 3) := by decide +kernel
theorem d_S_openSlot_85 : decode b_S_openSlot 85 = .ok (.goto (-43), 3) := by decide +kernel
theorem d_S_openSlot_88 : decode b_S_openSlot 88 = .ok (.aload_n 0, 1) := by decide +kernel
theorem d_S_openSlot_89 : decode b_S_openSlot 89 = .ok (.getfield 22, 3) := by decide +kernel
theorem d_S_openSlot_92 : decode b_S_openSlot 92 = .ok (.getfield 113, 3) := by decide +kernel
theorem d_S_openSlot_95 : decode b_S_openSlot 95 = .ok (.iload_n 1, 1) := by decide +kernel
theorem d_S_openSlot_96 : decode b_S_openSlot 96 = .ok (.iaload, 1) := by decide +kernel
theorem d_S_openSlot_97 : decode b_S_openSlot 97 = .ok (.istore_n 3, 1) := by decide +kernel
theorem d_S_openSlot_98 : decode b_S_openSlot 98 = .ok (.iload_n 3, 1) := by decide +kernel
theorem d_S_openSlot_99 : decode b_S_openSlot 99 = .ok (.iconst (-1), 1) := by decide +kernel
theorem d_S_openSlot_100 : decode b_S_openSlot 100 = .ok (.if_icmp .eq 45, 3) := by decide +kernel
theorem d_S_openSlot_103 : decode b_S_openSlot 103 = .ok (.aload_n 0, 1) := by decide +kernel
theorem d_S_openSlot_104 : decode b_S_openSlot 104 = .ok (.getfield 9, 3) := by decide +kernel
theorem d_S_openSlot_107 : decode b_S_openSlot 107 = .ok (.iload_n 1, 1) := by decide +kernel
theorem d_S_openSlot_108 : decode b_S_openSlot 108 = .ok (.dup2, 1) := by decide +kernel
theorem d_S_openSlot_109 : decode b_S_openSlot 109 = .ok (.laload, 1) := by decide +kernel
theorem d_S_openSlot_110 : decode b_S_openSlot 110 = .ok (.aload_n 0, 1) := by decide +kernel
theorem d_S_openSlot_111 : decode b_S_openSlot 111 = .ok (.getfield 26, 3) := by decide +kernel
theorem d_S_openSlot_114 : decode b_S_openSlot 114 = .ok (.getfield 116, 3) := by decide +kernel
theorem d_S_openSlot_117 : decode b_S_openSlot 117 = .ok (.iload_n 3, 1) := by decide +kernel
theorem d_S_openSlot_118 : decode b_S_openSlot 118 = .ok (.iaload, 1) := by decide +kernel
theorem d_S_openSlot_119 : decode b_S_openSlot 119 = .ok (.invokestatic 119, 3) := by decide +kernel
theorem d_S_openSlot_122 : decode b_S_openSlot 122 = .ok (.land, 1) := by decide +kernel
theorem d_S_openSlot_123 : decode b_S_openSlot 123 = .ok (.lastore, 1) := by decide +kernel
theorem d_S_openSlot_124 : decode b_S_openSlot 124 = .ok (.aload_n 0, 1) := by decide +kernel
theorem d_S_openSlot_125 : decode b_S_openSlot 125 = .ok (.getfield 15, 3) := by decide +kernel
theorem d_S_openSlot_128 : decode b_S_openSlot 128 = .ok (.iload_n 1, 1) := by decide +kernel
theorem d_S_openSlot_129 : decode b_S_openSlot 129 = .ok (.dup2, 1) := by decide +kernel
theorem d_S_openSlot_130 : decode b_S_openSlot 130 = .ok (.laload, 1) := by decide +kernel
theorem d_S_openSlot_131 : decode b_S_openSlot 131 = .ok (.aload_n 0, 1) := by decide +kernel
theorem d_S_openSlot_132 : decode b_S_openSlot 132 = .ok (.getfield 26, 3) := by decide +kernel
theorem d_S_openSlot_135 : decode b_S_openSlot 135 = .ok (.getfield 116, 3) := by decide +kernel
theorem d_S_openSlot_138 : decode b_S_openSlot 138 = .ok (.iload_n 3, 1) := by decide +kernel
theorem d_S_openSlot_139 : decode b_S_openSlot 139 = .ok (.iaload, 1) := by decide +kernel
theorem d_S_openSlot_140 : decode b_S_openSlot 140 = .ok (.invokestatic 123, 3) := by decide +kernel
theorem d_S_openSlot_143 : decode b_S_openSlot 143 = .ok (.land, 1) := by decide +kernel
theorem d_S_openSlot_144 : decode b_S_openSlot 144 = .ok (.lastore, 1) := by decide +kernel
theorem d_S_openSlot_145 : decode b_S_openSlot 145 = .ok (.return_, 1) := by decide +kernel
theorem d_S_countAtStart_0 : decode b_S_countAtStart 0 = .ok (.aload_n 0, 1) := by decide +kernel
theorem d_S_countAtStart_1 : decode b_S_countAtStart 1 = .ok (.iload_n 1, 1) := by decide +kernel
theorem d_S_countAtStart_2 : decode b_S_countAtStart 2 = .ok (.invokevirtual 66, 3) := by decide +kernel
theorem d_S_countAtStart_5 : decode b_S_countAtStart 5 = .ok (.aload_n 0, 1) := by decide +kernel
theorem d_S_countAtStart_6 : decode b_S_countAtStart 6 = .ok (.getfield 9, 3) := by decide +kernel
theorem d_S_countAtStart_9 : decode b_S_countAtStart 9 = .ok (.iload_n 1, 1) := by decide +kernel
theorem d_S_countAtStart_10 : decode b_S_countAtStart 10 = .ok (.laload, 1) := by decide +kernel
theorem d_S_countAtStart_11 : decode b_S_countAtStart 11 = .ok (.invokestatic 70, 3) := by decide +kernel
theorem d_S_countAtStart_14 : decode b_S_countAtStart 14 = .ok (.aload_n 0, 1) := by decide +kernel
theorem d_S_countAtStart_15 : decode b_S_countAtStart 15 = .ok (.getfield 15, 3) := by decide +kernel
theorem d_S_countAtStart_18 : decode b_S_countAtStart 18 = .ok (.iload_n 1, 1) := by decide +kernel
theorem d_S_countAtStart_19 : decode b_S_countAtStart 19 = .ok (.laload, 1) := by decide +kernel
theorem d_S_countAtStart_20 : decode b_S_countAtStart 20 = .ok (.invokestatic 70, 3) := by decide +kernel
theorem d_S_countAtStart_23 : decode b_S_countAtStart 23 = .ok (.iadd, 1) := by decide +kernel
theorem d_S_countAtStart_24 : decode b_S_countAtStart 24 = .ok (.ireturn, 1) := by decide +kernel
theorem d_S_clearSlots_0 : decode b_S_clearSlots 0 = .ok (.aload_n 0, 1) := by decide +kernel
theorem d_S_clearSlots_1 : decode b_S_clearSlots 1 = .ok (.lconst 0, 1) := by decide +kernel
theorem d_S_clearSlots_2 : decode b_S_clearSlots 2 = .ok (.putfield 76, 3) := by decide +kernel
theorem d_S_clearSlots_5 : decode b_S_clearSlots 5 = .ok (.aload_n 0, 1) := by decide +kernel
theorem d_S_clearSlots_6 : decode b_S_clearSlots 6 = .ok (.lconst 0, 1) := by decide +kernel
theorem d_S_clearSlots_7 : decode b_S_clearSlots 7 = .ok (.putfield 80, 3) := by decide +kernel
theorem d_S_clearSlots_10 : decode b_S_clearSlots 10 = .ok (.iconst 0, 1) := by decide +kernel
theorem d_S_clearSlots_11 : decode b_S_clearSlots 11 = .ok (.istore_n 1, 1) := by decide +kernel
theorem d_S_clearSlots_12 : decode b_S_clearSlots 12 = .ok (.iload_n 1, 1) := by decide +kernel
theorem d_S_clearSlots_13 : decode b_S_clearSlots 13 = .ok (.aload_n 0, 1) := by decide +kernel
theorem d_S_clearSlots_14 : decode b_S_clearSlots 14 = .ok (.getfield 22, 3) := by decide +kernel
theorem d_S_clearSlots_17 : decode b_S_clearSlots 17 = .ok (.getfield 83, 3) := by decide +kernel
theorem d_S_clearSlots_20 : decode b_S_clearSlots 20 = .ok (.if_icmp .ge 21, 3) := by decide +kernel
theorem d_S_clearSlots_23 : decode b_S_clearSlots 23 = .ok (.aload_n 0, 1) := by decide +kernel
theorem d_S_clearSlots_24 : decode b_S_clearSlots 24 = .ok (.getfield 18, 3) := by decide +kernel
theorem d_S_clearSlots_27 : decode b_S_clearSlots 27 = .ok (.iload_n 1, 1) := by decide +kernel
theorem d_S_clearSlots_28 : decode b_S_clearSlots 28 = .ok (.iconst (-1), 1) := by decide +kernel
theorem d_S_clearSlots_29 : decode b_S_clearSlots 29 = .ok (.iastore, 1) := by decide +kernel
theorem d_S_clearSlots_30 : decode b_S_clearSlots 30 = .ok (.aload_n 0, 1) := by decide +kernel
theorem d_S_clearSlots_31 : decode b_S_clearSlots 31 = .ok (.iload_n 1, 1) := by decide +kernel
theorem d_S_clearSlots_32 : decode b_S_clearSlots 32 = .ok (.invokevirtual 66, 3) := by decide +kernel
theorem d_S_clearSlots_35 : decode b_S_clearSlots 35 = .ok (.iinc 1 1, 3) := by decide +kernel
theorem d_S_clearSlots_38 : decode b_S_clearSlots 38 = .ok (.goto (-26), 3) := by decide +kernel
theorem d_S_clearSlots_41 : decode b_S_clearSlots 41 = .ok (.return_, 1) := by decide +kernel
theorem d_S_lowestBit_0 : decode b_S_lowestBit 0 = .ok (.lload_n 0, 1) := by decide +kernel
theorem d_S_lowestBit_1 : decode b_S_lowestBit 1 = .ok (.lload_n 0, 1) := by decide +kernel
theorem d_S_lowestBit_2 : decode b_S_lowestBit 2 = .ok (.lneg, 1) := by decide +kernel
theorem d_S_lowestBit_3 : decode b_S_lowestBit 3 = .ok (.land, 1) := by decide +kernel
theorem d_S_lowestBit_4 : decode b_S_lowestBit 4 = .ok (.lconst 1, 1) := by decide +kernel
theorem d_S_lowestBit_5 : decode b_S_lowestBit 5 = .ok (.lsub, 1) := by decide +kernel
theorem d_S_lowestBit_6 : decode b_S_lowestBit 6 = .ok (.invokestatic 70, 3) := by decide +kernel
theorem d_S_lowestBit_9 : decode b_S_lowestBit 9 = .ok (.ireturn, 1) := by decide +kernel
theorem d_S_takeFilling_0 : decode b_S_takeFilling 0 = .ok (.aload_n 0, 1) := by decide +kernel
theorem d_S_takeFilling_1 : decode b_S_takeFilling 1 = .ok (.dup, 1) := by decide +kernel
theorem d_S_takeFilling_2 : decode b_S_takeFilling 2 = .ok (.getfield 48, 3) := by decide +kernel
theorem d_S_takeFilling_5 : decode b_S_takeFilling 5 = .ok (.iconst 1, 1) := by decide +kernel
theorem d_S_takeFilling_6 : decode b_S_takeFilling 6 = .ok (.iadd, 1) := by decide +kernel
theorem d_S_takeFilling_7 : decode b_S_takeFilling 7 = .ok (.putfield 48, 3) := by decide +kernel
theorem d_S_takeFilling_10 : decode b_S_takeFilling 10 = .ok (.aload_n 0, 1) := by decide +kernel
theorem d_S_takeFilling_11 : decode b_S_takeFilling 11 = .ok (.getfield 51, 3) := by decide +kernel
theorem d_S_takeFilling_14 : decode b_S_takeFilling 14 = .ok (.aload_n 0, 1) := by decide +kernel
theorem d_S_takeFilling_15 : decode b_S_takeFilling 15 = .ok (.getfield 30, 3) := by decide +kernel
theorem d_S_takeFilling_18 : decode b_S_takeFilling 18 = .ok (.getfield 149, 3) := by decide +kernel
theorem d_S_takeFilling_21 : decode b_S_takeFilling 21 = .ok (.if_icmp .le 18, 3) := by decide +kernel
theorem d_S_takeFilling_24 : decode b_S_takeFilling 24 = .ok (.aload_n 0, 1) := by decide +kernel
theorem d_S_takeFilling_25 : decode b_S_takeFilling 25 = .ok (.getfield 30, 3) := by decide +kernel
theorem d_S_takeFilling_28 : decode b_S_takeFilling 28 = .ok (.aload_n 0, 1) := by decide +kernel
theorem d_S_takeFilling_29 : decode b_S_takeFilling 29 = .ok (.getfield 18, 3) := by decide +kernel
theorem d_S_takeFilling_32 : decode b_S_takeFilling 32 = .ok (.aload_n 0, 1) := by decide +kernel
theorem d_S_takeFilling_33 : decode b_S_takeFilling 33 = .ok (.getfield 51, 3) := by decide +kernel
theorem d_S_takeFilling_36 : decode b_S_takeFilling 36 = .ok (.invokevirtual 152, 3) := by decide +kernel
theorem d_S_takeFilling_39 : decode b_S_takeFilling 39 = .ok (.aload_n 0, 1) := by decide +kernel
theorem d_S_takeFilling_40 : decode b_S_takeFilling 40 = .ok (.getfield 38, 3) := by decide +kernel
theorem d_S_takeFilling_43 : decode b_S_takeFilling 43 = .ok (.ireturn, 1) := by decide +kernel
theorem d_S_slotWithFewest_0 : decode b_S_slotWithFewest 0 = .ok (.bipush 81, 2) := by decide +kernel
theorem d_S_slotWithFewest_2 : decode b_S_slotWithFewest 2 = .ok (.istore_n 2, 1) := by decide +kernel
theorem d_S_slotWithFewest_3 : decode b_S_slotWithFewest 3 = .ok (.iconst (-1), 1) := by decide +kernel
theorem d_S_slotWithFewest_4 : decode b_S_slotWithFewest 4 = .ok (.istore_n 3, 1) := by decide +kernel
theorem d_S_slotWithFewest_5 : decode b_S_slotWithFewest 5 = .ok (.iload_n 1, 1) := by decide +kernel
theorem d_S_slotWithFewest_6 : decode b_S_slotWithFewest 6 = .ok (.bipush 24, 2) := by decide +kernel
theorem d_S_slotWithFewest_8 : decode b_S_slotWithFewest 8 = .ok (.imul, 1) := by decide +kernel
theorem d_S_slotWithFewest_9 : decode b_S_slotWithFewest 9 = .ok (.istore 4, 2) := by decide +kernel
theorem d_S_slotWithFewest_11 : decode b_S_slotWithFewest 11 = .ok (.iconst 0, 1) := by decide +kernel
theorem d_S_slotWithFewest_12 : decode b_S_slotWithFewest 12 = .ok (.istore 5, 2) := by decide +kernel
theorem d_S_slotWithFewest_14 : decode b_S_slotWithFewest 14 = .ok (.iload 5, 2) := by decide +kernel
theorem d_S_slotWithFewest_16 : decode b_S_slotWithFewest 16 = .ok (.aload_n 0, 1) := by decide +kernel
theorem d_S_slotWithFewest_17 : decode b_S_slotWithFewest 17 = .ok (.getfield 22, 3) := by decide +kernel
theorem d_S_slotWithFewest_20 : decode b_S_slotWithFewest 20 = .ok (.getfield 83, 3) := by decide +kernel
theorem d_S_slotWithFewest_23 : decode b_S_slotWithFewest 23 = .ok (.if_icmp .ge 83, 3) := by decide +kernel
theorem d_S_slotWithFewest_26 : decode b_S_slotWithFewest 26 = .ok (.iload_n 2, 1) := by decide +kernel
theorem d_S_slotWithFewest_27 : decode b_S_slotWithFewest 27 = .ok (.ifCond .le 79, 3) := by decide +kernel
theorem d_S_slotWithFewest_30 : decode b_S_slotWithFewest 30 = .ok (.aload_n 0, 1) := by decide +kernel
theorem d_S_slotWithFewest_31 : decode b_S_slotWithFewest 31 = .ok (.getfield 18, 3) := by decide +kernel
theorem d_S_slotWithFewest_34 : decode b_S_slotWithFewest 34 = .ok (.iload 5, 2) := by decide +kernel
theorem d_S_slotWithFewest_36 : decode b_S_slotWithFewest 36 = .ok (.iaload, 1) := by decide +kernel
theorem d_S_slotWithFewest_37 : decode b_S_slotWithFewest 37 = .ok (.iconst (-1), 1) := by decide +kernel
theorem d_S_slotWithFewest_38 : decode b_S_slotWithFewest 38 = .ok (.if_icmp .ne 62, 3) := by decide +kernel
theorem d_S_slotWithFewest_41 : decode b_S_slotWithFewest 41 = .ok (.aload_n 0, 1) := by decide +kernel
theorem d_S_slotWithFewest_42 : decode b_S_slotWithFewest 42 = .ok (.getfield 9, 3) := by decide +kernel
theorem d_S_slotWithFewest_45 : decode b_S_slotWithFewest 45 = .ok (.iload 4, 2) := by decide +kernel
theorem d_S_slotWithFewest_47 : decode b_S_slotWithFewest 47 = .ok (.iload 5, 2) := by decide +kernel
theorem d_S_slotWithFewest_49 : decode b_S_slotWithFewest 49 = .ok (.iadd, 1) := by decide +kernel
theorem d_S_slotWithFewest_50 : decode b_S_slotWithFewest 50 = .ok (.laload, 1) := by decide +kernel
theorem d_S_slotWithFewest_51 : decode b_S_slotWithFewest 51 = .ok (.aload_n 0, 1) := by decide +kernel
theorem d_S_slotWithFewest_52 : decode b_S_slotWithFewest 52 = .ok (.getfield 76, 3) := by decide +kernel
theorem d_S_slotWithFewest_55 : decode b_S_slotWithFewest 55 = .ok (.ldc2_w 140, 3) := by decide +kernel
theorem d_S_slotWithFewest_58 : decode b_S_slotWithFewest 58 = .ok (.lxor, 1) := by decide +kernel
theorem d_S_slotWithFewest_59 : decode b_S_slotWithFewest 59 = .ok (.land, 1) := by decide +kernel
theorem d_S_slotWithFewest_60 : decode b_S_slotWithFewest 60 = .ok (.invokestatic 70, 3) := by decide +kernel
theorem d_S_slotWithFewest_63 : decode b_S_slotWithFewest 63 = .ok (.aload_n 0, 1) := by decide +kernel
theorem d_S_slotWithFewest_64 : decode b_S_slotWithFewest 64 = .ok (.getfield 15, 3) := by decide +kernel
theorem d_S_slotWithFewest_67 : decode b_S_slotWithFewest 67 = .ok (.iload 4, 2) := by decide +kernel
theorem d_S_slotWithFewest_69 : decode b_S_slotWithFewest 69 = .ok (.iload 5, 2) := by decide +kernel
theorem d_S_slotWithFewest_71 : decode b_S_slotWithFewest 71 = .ok (.iadd, 1) := by decide +kernel
theorem d_S_slotWithFewest_72 : decode b_S_slotWithFewest 72 = .ok (.laload, 1) := by decide +kernel
theorem d_S_slotWithFewest_73 : decode b_S_slotWithFewest 73 = .ok (.aload_n 0, 1) := by decide +kernel
theorem d_S_slotWithFewest_74 : decode b_S_slotWithFewest 74 = .ok (.getfield 80, 3) := by decide +kernel
theorem d_S_slotWithFewest_77 : decode b_S_slotWithFewest 77 = .ok (.ldc2_w 140, 3) := by decide +kernel
theorem d_S_slotWithFewest_80 : decode b_S_slotWithFewest 80 = .ok (.lxor, 1) := by decide +kernel
theorem d_S_slotWithFewest_81 : decode b_S_slotWithFewest 81 = .ok (.land, 1) := by decide +kernel
theorem d_S_slotWithFewest_82 : decode b_S_slotWithFewest 82 = .ok (.invokestatic 70, 3) := by decide +kernel
theorem d_S_slotWithFewest_85 : decode b_S_slotWithFewest 85 = .ok (.iadd, 1) := by decide +kernel
theorem d_S_slotWithFewest_86 : decode b_S_slotWithFewest 86 = .ok (.istore 6, 2) := by decide +kernel
theorem d_S_slotWithFewest_88 : decode b_S_slotWithFewest 88 = .ok (.iload 6, 2) := by decide +kernel
theorem d_S_slotWithFewest_90 : decode b_S_slotWithFewest 90 = .ok (.iload_n 2, 1) := by decide +kernel
theorem d_S_slotWithFewest_91 : decode b_S_slotWithFewest 91 = .ok (.if_icmp .ge 9, 3) := by decide +kernel
theorem d_S_slotWithFewest_94 : decode b_S_slotWithFewest 94 = .ok (.iload 6, 2) := by decide +kernel
theorem d_S_slotWithFewest_96 : decode b_S_slotWithFewest 96 = .ok (.istore_n 2, 1) := by decide +kernel
theorem d_S_slotWithFewest_97 : decode b_S_slotWithFewest 97 = .ok (.iload 5, 2) := by decide +kernel
theorem d_S_slotWithFewest_99 : decode b_S_slotWithFewest 99 = .ok (.istore_n 3, 1) := by decide +kernel
theorem d_S_slotWithFewest_100 : decode b_S_slotWithFewest 100 = .ok (.iinc 5 1, 3) := by decide +kernel
theorem d_S_slotWithFewest_103 : decode b_S_slotWithFewest 103 = .ok (.goto (-89), 3) := by decide +kernel
theorem d_S_slotWithFewest_106 : decode b_S_slotWithFewest 106 = .ok (.iload_n 3, 1) := by decide +kernel
theorem d_S_slotWithFewest_107 : decode b_S_slotWithFewest 107 = .ok (.ireturn, 1) := by decide +kernel
theorem d_S_narrowCrossing_0 : decode b_S_narrowCrossing 0 = .ok (.iload_n 1, 1) := by decide +kernel
theorem d_S_narrowCrossing_1 : decode b_S_narrowCrossing 1 = .ok (.bipush 24, 2) := by decide +kernel
theorem d_S_narrowCrossing_3 : decode b_S_narrowCrossing 3 = .ok (.imul, 1) := by decide +kernel
theorem d_S_narrowCrossing_4 : decode b_S_narrowCrossing 4 = .ok (.istore 4, 2) := by decide +kernel
theorem d_S_narrowCrossing_6 : decode b_S_narrowCrossing 6 = .ok (.iload 4, 2) := by decide +kernel
theorem d_S_narrowCrossing_8 : decode b_S_narrowCrossing 8 = .ok (.bipush 24, 2) := by decide +kernel
theorem d_S_narrowCrossing_10 : decode b_S_narrowCrossing 10 = .ok (.iadd, 1) := by decide +kernel
theorem d_S_narrowCrossing_11 : decode b_S_narrowCrossing 11 = .ok (.istore 5, 2) := by decide +kernel
theorem d_S_narrowCrossing_13 : decode b_S_narrowCrossing 13 = .ok (.aload_n 0, 1) := by decide +kernel
theorem d_S_narrowCrossing_14 : decode b_S_narrowCrossing 14 = .ok (.getfield 9, 3) := by decide +kernel
theorem d_S_narrowCrossing_17 : decode b_S_narrowCrossing 17 = .ok (.iload 4, 2) := by decide +kernel
theorem d_S_narrowCrossing_19 : decode b_S_narrowCrossing 19 = .ok (.aload_n 0, 1) := by decide +kernel
theorem d_S_narrowCrossing_20 : decode b_S_narrowCrossing 20 = .ok (.getfield 9, 3) := by decide +kernel
theorem d_S_narrowCrossing_23 : decode b_S_narrowCrossing 23 = .ok (.iload 5, 2) := by decide +kernel
theorem d_S_narrowCrossing_25 : decode b_S_narrowCrossing 25 = .ok (.aload_n 0, 1) := by decide +kernel
theorem d_S_narrowCrossing_26 : decode b_S_narrowCrossing 26 = .ok (.getfield 22, 3) := by decide +kernel
theorem d_S_narrowCrossing_29 : decode b_S_narrowCrossing 29 = .ok (.getfield 83, 3) := by decide +kernel
theorem d_S_narrowCrossing_32 : decode b_S_narrowCrossing 32 = .ok (.invokestatic 166, 3) := by decide +kernel
theorem d_S_narrowCrossing_35 : decode b_S_narrowCrossing 35 = .ok (.aload_n 0, 1) := by decide +kernel
theorem d_S_narrowCrossing_36 : decode b_S_narrowCrossing 36 = .ok (.getfield 15, 3) := by decide +kernel
theorem d_S_narrowCrossing_39 : decode b_S_narrowCrossing 39 = .ok (.iload 4, 2) := by decide +kernel
theorem d_S_narrowCrossing_41 : decode b_S_narrowCrossing 41 = .ok (.aload_n 0, 1) := by decide +kernel
theorem d_S_narrowCrossing_42 : decode b_S_narrowCrossing 42 = .ok (.getfield 15, 3) := by decide +kernel
theorem d_S_narrowCrossing_45 : decode b_S_narrowCrossing 45 = .ok (.iload 5, 2) := by decide +kernel
theorem d_S_narrowCrossing_47 : decode b_S_narrowCrossing 47 = .ok (.aload_n 0, 1) := by decide +kernel
theorem d_S_narrowCrossing_48 : decode b_S_narrowCrossing 48 = .ok (.getfield 22, 3) := by decide +kernel
theorem d_S_narrowCrossing_51 : decode b_S_narrowCrossing 51 = .ok (.getfield 83, 3) := by decide +kernel
theorem d_S_narrowCrossing_54 : decode b_S_narrowCrossing 54 = .ok (.invokestatic 166, 3) := by decide +kernel
theorem d_S_narrowCrossing_57 : decode b_S_narrowCrossing 57 = .ok (.iconst 1, 1) := by decide +kernel
theorem d_S_narrowCrossing_58 : decode b_S_narrowCrossing 58 = .ok (.aload_n 0, 1) := by decide +kernel
theorem d_S_narrowCrossing_59 : decode b_S_narrowCrossing 59 = .ok (.getfield 22, 3) := by decide +kernel
theorem d_S_narrowCrossing_62 : decode b_S_narrowCrossing 62 = .ok (.getfield 172, 3) := by decide +kernel
theorem d_S_narrowCrossing_65 : decode b_S_narrowCrossing 65 = .ok (.iload_n 2, 1) := by decide +kernel
theorem d_S_narrowCrossing_66 : decode b_S_narrowCrossing 66 = .ok (.iaload, 1) := by decide +kernel
theorem d_S_narrowCrossing_67 : decode b_S_narrowCrossing 67 = .ok (.isub, 1) := by decide +kernel
theorem d_S_narrowCrossing_68 : decode b_S_narrowCrossing 68 = .ok (.istore 6, 2) := by decide +kernel
theorem d_S_narrowCrossing_70 : decode b_S_narrowCrossing 70 = .ok (.iconst 0, 1) := by decide +kernel
theorem d_S_narrowCrossing_71 : decode b_S_narrowCrossing 71 = .ok (.istore 7, 2) := by decide +kernel
theorem d_S_narrowCrossing_73 : decode b_S_narrowCrossing 73 = .ok (.iload 7, 2) := by decide +kernel
theorem d_S_narrowCrossing_75 : decode b_S_narrowCrossing 75 = .ok (.aload_n 0, 1) := by decide +kernel
theorem d_S_narrowCrossing_76 : decode b_S_narrowCrossing 76 = .ok (.getfield 22, 3) := by decide +kernel
theorem d_S_narrowCrossing_79 : decode b_S_narrowCrossing 79 = .ok (.getfield 88, 3) := by decide +kernel
theorem d_S_narrowCrossing_82 : decode b_S_narrowCrossing 82 = .ok (.iload_n 2, 1) := by decide +kernel
theorem d_S_narrowCrossing_83 : decode b_S_narrowCrossing 83 = .ok (.iaload, 1) := by decide +kernel
theorem d_S_narrowCrossing_84 : decode b_S_narrowCrossing 84 = .ok (.if_icmp .ge 77, 3) := by decide +kernel
theorem d_S_narrowCrossing_87 : decode b_S_narrowCrossing 87 = .ok (.aload_n 0, 1) := by decide +kernel
theorem d_S_narrowCrossing_88 : decode b_S_narrowCrossing 88 = .ok (.getfield 22, 3) := by decide +kernel
theorem d_S_narrowCrossing_91 : decode b_S_narrowCrossing 91 = .ok (.iload_n 2, 1) := by decide +kernel
theorem d_S_narrowCrossing_92 : decode b_S_narrowCrossing 92 = .ok (.iload 7, 2) := by decide +kernel
theorem d_S_narrowCrossing_94 : decode b_S_narrowCrossing 94 = .ok (.invokevirtual 102, 3) := by decide +kernel
theorem d_S_narrowCrossing_97 : decode b_S_narrowCrossing 97 = .ok (.istore 8, 2) := by decide +kernel
theorem d_S_narrowCrossing_99 : decode b_S_narrowCrossing 99 = .ok (.aload_n 0, 1) := by decide +kernel
theorem d_S_narrowCrossing_100 : decode b_S_narrowCrossing 100 = .ok (.getfield 22, 3) := by decide +kernel
theorem d_S_narrowCrossing_103 : decode b_S_narrowCrossing 103 = .ok (.iload 8, 2) := by decide +kernel
theorem d_S_narrowCrossing_105 : decode b_S_narrowCrossing 105 = .ok (.iload 6, 2) := by decide +kernel
theorem d_S_narrowCrossing_107 : decode b_S_narrowCrossing 107 = .ok (.invokevirtual 175, 3) := by decide +kernel
theorem d_S_narrowCrossing_110 : decode b_S_narrowCrossing 110 = .ok (.istore 9, 2) := by decide +kernel
theorem d_S_narrowCrossing_112 : decode b_S_narrowCrossing 112 = .ok (.iload 9, 2) := by decide +kernel
theorem d_S_narrowCrossing_114 : decode b_S_narrowCrossing 114 = .ok (.iconst (-1), 1) := by decide +kernel
theorem d_S_narrowCrossing_115 : decode b_S_narrowCrossing 115 = .ok (.if_icmp .eq 40, 3) := by decide +kernel
theorem d_S_narrowCrossing_118 : decode b_S_narrowCrossing 118 = .ok (.aload_n 0, 1) := by decide +kernel
theorem d_S_narrowCrossing_119 : decode b_S_narrowCrossing 119 = .ok (.getfield 22, 3) := by decide +kernel
theorem d_S_narrowCrossing_122 : decode b_S_narrowCrossing 122 = .ok (.iload 8, 2) := by decide +kernel
theorem d_S_narrowCrossing_124 : decode b_S_narrowCrossing 124 = .ok (.iload 6, 2) := by decide +kernel
theorem d_S_narrowCrossing_126 : decode b_S_narrowCrossing 126 = .ok (.invokevirtual 178, 3) := by decide +kernel
theorem d_S_narrowCrossing_129 : decode b_S_narrowCrossing 129 = .ok (.istore 10, 2) := by decide +kernel
theorem d_S_narrowCrossing_131 : decode b_S_narrowCrossing 131 = .ok (.aload_n 0, 1) := by decide +kernel
theorem d_S_narrowCrossing_132 : decode b_S_narrowCrossing 132 = .ok (.iload 5, 2) := by decide +kernel
theorem d_S_narrowCrossing_134 : decode b_S_narrowCrossing 134 = .ok (.iload 9, 2) := by decide +kernel
theorem d_S_narrowCrossing_136 : decode b_S_narrowCrossing 136 = .ok (.iadd, 1) := by decide +kernel
theorem d_S_narrowCrossing_137 : decode b_S_narrowCrossing 137 = .ok (.iload 10, 2) := by decide +kernel
theorem d_S_narrowCrossing_139 : decode b_S_narrowCrossing 139 = .ok (.aload_n 0, 1) := by decide +kernel
theorem d_S_narrowCrossing_140 : decode b_S_narrowCrossing 140 = .ok (.getfield 26, 3) := by decide +kernel
theorem d_S_narrowCrossing_143 : decode b_S_narrowCrossing 143 = .ok (.iload_n 3, 1) := by decide +kernel
theorem d_S_narrowCrossing_144 : decode b_S_narrowCrossing 144 = .ok (.iload 7, 2) := by decide +kernel
theorem d_S_narrowCrossing_146 : decode b_S_narrowCrossing 146 = .ok (.invokevirtual 181, 3) := by decide +kernel
theorem d_S_narrowCrossing_149 : decode b_S_narrowCrossing 149 = .ok (.invokestatic 106, 3) := by decide +kernel
theorem d_S_narrowCrossing_152 : decode b_S_narrowCrossing 152 = .ok (.invokevirtual 109, 3) := by decide +kernel
theorem d_S_narrowCrossing_155 : decode b_S_narrowCrossing 155 = .ok (.iinc 7 1, 3) := by decide +kernel
theorem d_S_narrowCrossing_158 : decode b_S_narrowCrossing 158 = .ok (.goto (-85), 3) := by decide +kernel
theorem d_S_narrowCrossing_161 : decode b_S_narrowCrossing 161 = .ok (.return_, 1) := by decide +kernel
theorem d_X_black_0 : decode b_X_black 0 = .ok (.aload_n 0, 1) := by decide +kernel
theorem d_X_black_1 : decode b_X_black 1 = .ok (.getfield 18, 3) := by decide +kernel
theorem d_X_black_4 : decode b_X_black 4 = .ok (.iload_n 1, 1) := by decide +kernel
theorem d_X_black_5 : decode b_X_black 5 = .ok (.iload_n 2, 1) := by decide +kernel
theorem d_X_black_6 : decode b_X_black 6 = .ok (.invokevirtual 47, 3) := by decide +kernel
theorem d_X_black_9 : decode b_X_black 9 = .ok (.istore 4, 2) := by decide +kernel
theorem d_X_black_11 : decode b_X_black 11 = .ok (.iload 4, 2) := by decide +kernel
theorem d_X_black_13 : decode b_X_black 13 = .ok (.iconst (-1), 1) := by decide +kernel
theorem d_X_black_14 : decode b_X_black 14 = .ok (.if_icmp .eq 17, 3) := by decide +kernel
theorem d_X_black_17 : decode b_X_black 17 = .ok (.aload_n 0, 1) := by decide +kernel
theorem d_X_black_18 : decode b_X_black 18 = .ok (.getfield 18, 3) := by decide +kernel
theorem d_X_black_21 : decode b_X_black 21 = .ok (.getfield 51, 3) := by decide +kernel
theorem d_X_black_24 : decode b_X_black 24 = .ok (.iload 4, 2) := by decide +kernel
theorem d_X_black_26 : decode b_X_black 26 = .ok (.baload, 1) := by decide +kernel
theorem d_X_black_27 : decode b_X_black 27 = .ok (.iload_n 3, 1) := by decide +kernel
theorem d_X_black_28 : decode b_X_black 28 = .ok (.if_icmp .ne 5, 3) := by decide +kernel
theorem d_X_black_31 : decode b_X_black 31 = .ok (.iconst 0, 1) := by decide +kernel
theorem d_X_black_32 : decode b_X_black 32 = .ok (.ireturn, 1) := by decide +kernel
theorem d_X_black_33 : decode b_X_black 33 = .ok (.aload_n 0, 1) := by decide +kernel
theorem d_X_black_34 : decode b_X_black 34 = .ok (.getfield 18, 3) := by decide +kernel
theorem d_X_black_37 : decode b_X_black 37 = .ok (.iload 4, 2) := by decide +kernel
theorem d_X_black_39 : decode b_X_black 39 = .ok (.iload_n 3, 1) := by decide +kernel
theorem d_X_black_40 : decode b_X_black 40 = .ok (.invokevirtual 55, 3) := by decide +kernel
theorem d_X_black_43 : decode b_X_black 43 = .ok (.aload_n 0, 1) := by decide +kernel
theorem d_X_black_44 : decode b_X_black 44 = .ok (.getfield 34, 3) := by decide +kernel
end
section
theorem d_X_black_47 : decode b_X_black 47 = .ok (.invokevirtual 59, 3) := by decide +kernel
theorem d_X_black_50 : decode b_X_black 50 = .ok (.iconst 1, 1) := by decide +kernel
theorem d_X_black_51 : decode b_X_black 51 = .ok (.ireturn, 1) := by decide +kernel
theorem d_X_isLetter_0 : decode b_X_isLetter 0 = .ok (.iload_n 0, 1) := by decide +kernel
theorem d_X_isLetter_1 : decode b_X_isLetter 1 = .ok (.bipush 97, 2) := by decide +kernel
theorem d_X_isLetter_3 : decode b_X_isLetter 3 = .ok (.if_icmp .lt 13, 3) := by decide +kernel
theorem d_X_isLetter_6 : decode b_X_isLetter 6 = .ok (.iload_n 0, 1) := by decide +kernel
theorem d_X_isLetter_7 : decode b_X_isLetter 7 = .ok (.bipush 122, 2) := by decide +kernel
theorem d_X_isLetter_9 : decode b_X_isLetter 9 = .ok (.if_icmp .gt 7, 3) := by decide +kernel
theorem d_X_isLetter_12 : decode b_X_isLetter 12 = .ok (.iconst 1, 1) := by decide +kernel
theorem d_X_isLetter_13 : decode b_X_isLetter 13 = .ok (.goto 4, 3) := by decide +kernel
theorem d_X_isLetter_16 : decode b_X_isLetter 16 = .ok (.iconst 0, 1) := by decide +kernel
theorem d_X_isLetter_17 : decode b_X_isLetter 17 = .ok (.ireturn, 1) := by decide +kernel
theorem d_X_unit_0 : decode b_X_unit 0 = .ok (.iload_n 1, 1) := by decide +kernel
theorem d_X_unit_1 : decode b_X_unit 1 = .ok (.invokestatic 62, 3) := by decide +kernel
theorem d_X_unit_4 : decode b_X_unit 4 = .ok (.ifCond .eq 18, 3) := by decide +kernel
theorem d_X_unit_7 : decode b_X_unit 7 = .ok (.aload_n 0, 1) := by decide +kernel
theorem d_X_unit_8 : decode b_X_unit 8 = .ok (.getfield 25, 3) := by decide +kernel
theorem d_X_unit_11 : decode b_X_unit 11 = .ok (.iload_n 1, 1) := by decide +kernel
theorem d_X_unit_12 : decode b_X_unit 12 = .ok (.invokevirtual 66, 3) := by decide +kernel
theorem d_X_unit_15 : decode b_X_unit 15 = .ok (.ifCond .eq 7, 3) := by decide +kernel
theorem d_X_unit_18 : decode b_X_unit 18 = .ok (.iconst 1, 1) := by decide +kernel
theorem d_X_unit_19 : decode b_X_unit 19 = .ok (.goto 4, 3) := by decide +kernel
theorem d_X_unit_22 : decode b_X_unit 22 = .ok (.iconst 0, 1) := by decide +kernel
theorem d_X_unit_23 : decode b_X_unit 23 = .ok (.ireturn, 1) := by decide +kernel
theorem d_X_word_0 : decode b_X_word 0 = .ok (.aload_n 0, 1) := by decide +kernel
theorem d_X_word_1 : decode b_X_word 1 = .ok (.getfield 25, 3) := by decide +kernel
theorem d_X_word_4 : decode b_X_word 4 = .ok (.iload_n 1, 1) := by decide +kernel
theorem d_X_word_5 : decode b_X_word 5 = .ok (.invokevirtual 69, 3) := by decide +kernel
theorem d_X_word_8 : decode b_X_word 8 = .ok (.istore_n 2, 1) := by decide +kernel
theorem d_X_word_9 : decode b_X_word 9 = .ok (.aload_n 0, 1) := by decide +kernel
theorem d_X_word_10 : decode b_X_word 10 = .ok (.getfield 25, 3) := by decide +kernel
theorem d_X_word_13 : decode b_X_word 13 = .ok (.invokevirtual 72, 3) := by decide +kernel
theorem d_X_word_16 : decode b_X_word 16 = .ok (.iload_n 2, 1) := by decide +kernel
theorem d_X_word_17 : decode b_X_word 17 = .ok (.ireturn, 1) := by decide +kernel
theorem d_X_given_0 : decode b_X_given 0 = .ok (.aload_n 0, 1) := by decide +kernel
theorem d_X_given_1 : decode b_X_given 1 = .ok (.getfield 18, 3) := by decide +kernel
theorem d_X_given_4 : decode b_X_given 4 = .ok (.iload_n 1, 1) := by decide +kernel
theorem d_X_given_5 : decode b_X_given 5 = .ok (.iload_n 2, 1) := by decide +kernel
theorem d_X_given_6 : decode b_X_given 6 = .ok (.invokevirtual 47, 3) := by decide +kernel
theorem d_X_given_9 : decode b_X_given 9 = .ok (.istore 4, 2) := by decide +kernel
theorem d_X_given_11 : decode b_X_given 11 = .ok (.iload 4, 2) := by decide +kernel
theorem d_X_given_13 : decode b_X_given 13 = .ok (.iconst (-1), 1) := by decide +kernel
theorem d_X_given_14 : decode b_X_given 14 = .ok (.if_icmp .eq 27, 3) := by decide +kernel
theorem d_X_given_17 : decode b_X_given 17 = .ok (.aload_n 0, 1) := by decide +kernel
theorem d_X_given_18 : decode b_X_given 18 = .ok (.getfield 18, 3) := by decide +kernel
theorem d_X_given_21 : decode b_X_given 21 = .ok (.getfield 51, 3) := by decide +kernel
theorem d_X_given_24 : decode b_X_given 24 = .ok (.iload 4, 2) := by decide +kernel
theorem d_X_given_26 : decode b_X_given 26 = .ok (.baload, 1) := by decide +kernel
theorem d_X_given_27 : decode b_X_given 27 = .ok (.ifCond .ne 14, 3) := by decide +kernel
theorem d_X_given_30 : decode b_X_given 30 = .ok (.iload_n 3, 1) := by decide +kernel
theorem d_X_given_31 : decode b_X_given 31 = .ok (.ifCond .eq 12, 3) := by decide +kernel
theorem d_X_given_34 : decode b_X_given 34 = .ok (.iload_n 3, 1) := by decide +kernel
theorem d_X_given_35 : decode b_X_given 35 = .ok (.invokestatic 62, 3) := by decide +kernel
theorem d_X_given_38 : decode b_X_given 38 = .ok (.ifCond .ne 5, 3) := by decide +kernel
theorem d_X_given_41 : decode b_X_given 41 = .ok (.iconst 0, 1) := by decide +kernel
theorem d_X_given_42 : decode b_X_given 42 = .ok (.ireturn, 1) := by decide +kernel
theorem d_X_given_43 : decode b_X_given 43 = .ok (.aload_n 0, 1) := by decide +kernel
theorem d_X_given_44 : decode b_X_given 44 = .ok (.getfield 18, 3) := by decide +kernel
theorem d_X_given_47 : decode b_X_given 47 = .ok (.getfield 75, 3) := by decide +kernel
theorem d_X_given_50 : decode b_X_given 50 = .ok (.iload 4, 2) := by decide +kernel
theorem d_X_given_52 : decode b_X_given 52 = .ok (.iload_n 3, 1) := by decide +kernel
theorem d_X_given_53 : decode b_X_given 53 = .ok (.iastore, 1) := by decide +kernel
theorem d_X_given_54 : decode b_X_given 54 = .ok (.iconst 1, 1) := by decide +kernel
theorem d_X_given_55 : decode b_X_given 55 = .ok (.ireturn, 1) := by decide +kernel
theorem d_X_theme_0 : decode b_X_theme 0 = .ok (.aload_n 0, 1) := by decide +kernel
theorem d_X_theme_1 : decode b_X_theme 1 = .ok (.getfield 18, 3) := by decide +kernel
theorem d_X_theme_4 : decode b_X_theme 4 = .ok (.iload_n 1, 1) := by decide +kernel
theorem d_X_theme_5 : decode b_X_theme 5 = .ok (.invokevirtual 79, 3) := by decide +kernel
theorem d_X_theme_8 : decode b_X_theme 8 = .ok (.ifCond .ne 5, 3) := by decide +kernel
theorem d_X_theme_11 : decode b_X_theme 11 = .ok (.iconst 0, 1) := by decide +kernel
theorem d_X_theme_12 : decode b_X_theme 12 = .ok (.ireturn, 1) := by decide +kernel
theorem d_X_theme_13 : decode b_X_theme 13 = .ok (.iload_n 2, 1) := by decide +kernel
theorem d_X_theme_14 : decode b_X_theme 14 = .ok (.iconst (-1), 1) := by decide +kernel
theorem d_X_theme_15 : decode b_X_theme 15 = .ok (.if_icmp .eq 37, 3) := by decide +kernel
theorem d_X_theme_18 : decode b_X_theme 18 = .ok (.aload_n 0, 1) := by decide +kernel
theorem d_X_theme_19 : decode b_X_theme 19 = .ok (.getfield 25, 3) := by decide +kernel
theorem d_X_theme_22 : decode b_X_theme 22 = .ok (.iload_n 2, 1) := by decide +kernel
theorem d_X_theme_23 : decode b_X_theme 23 = .ok (.invokevirtual 82, 3) := by decide +kernel
theorem d_X_theme_26 : decode b_X_theme 26 = .ok (.ifCond .eq 24, 3) := by decide +kernel
theorem d_X_theme_29 : decode b_X_theme 29 = .ok (.aload_n 0, 1) := by decide +kernel
theorem d_X_theme_30 : decode b_X_theme 30 = .ok (.getfield 25, 3) := by decide +kernel
theorem d_X_theme_33 : decode b_X_theme 33 = .ok (.getfield 85, 3) := by decide +kernel
theorem d_X_theme_36 : decode b_X_theme 36 = .ok (.iload_n 2, 1) := by decide +kernel
theorem d_X_theme_37 : decode b_X_theme 37 = .ok (.iaload, 1) := by decide +kernel
theorem d_X_theme_38 : decode b_X_theme 38 = .ok (.aload_n 0, 1) := by decide +kernel
theorem d_X_theme_39 : decode b_X_theme 39 = .ok (.getfield 18, 3) := by decide +kernel
theorem d_X_theme_42 : decode b_X_theme 42 = .ok (.getfield 88, 3) := by decide +kernel
theorem d_X_theme_45 : decode b_X_theme 45 = .ok (.iload_n 1, 1) := by decide +kernel
theorem d_X_theme_46 : decode b_X_theme 46 = .ok (.iaload, 1) := by decide +kernel
theorem d_X_theme_47 : decode b_X_theme 47 = .ok (.if_icmp .eq 5, 3) := by decide +kernel
theorem d_X_theme_50 : decode b_X_theme 50 = .ok (.iconst 0, 1) := by decide +kernel
theorem d_X_theme_51 : decode b_X_theme 51 = .ok (.ireturn, 1) := by decide +kernel
theorem d_X_theme_52 : decode b_X_theme 52 = .ok (.aload_n 0, 1) := by decide +kernel
theorem d_X_theme_53 : decode b_X_theme 53 = .ok (.getfield 18, 3) := by decide +kernel
theorem d_X_theme_56 : decode b_X_theme 56 = .ok (.getfield 89, 3) := by decide +kernel
theorem d_X_theme_59 : decode b_X_theme 59 = .ok (.iload_n 1, 1) := by decide +kernel
theorem d_X_theme_60 : decode b_X_theme 60 = .ok (.iload_n 2, 1) := by decide +kernel
theorem d_X_theme_61 : decode b_X_theme 61 = .ok (.iastore, 1) := by decide +kernel
theorem d_X_theme_62 : decode b_X_theme 62 = .ok (.iconst 1, 1) := by decide +kernel
theorem d_X_theme_63 : decode b_X_theme 63 = .ok (.ireturn, 1) := by decide +kernel
theorem d_X_slots_0 : decode b_X_slots 0 = .ok (.aload_n 0, 1) := by decide +kernel
theorem d_X_slots_1 : decode b_X_slots 1 = .ok (.getfield 18, 3) := by decide +kernel
theorem d_X_slots_4 : decode b_X_slots 4 = .ok (.getfield 92, 3) := by decide +kernel
theorem d_X_slots_7 : decode b_X_slots 7 = .ok (.ireturn, 1) := by decide +kernel
theorem d_X_slot_0 : decode b_X_slot 0 = .ok (.aload_n 0, 1) := by decide +kernel
theorem d_X_slot_1 : decode b_X_slot 1 = .ok (.getfield 18, 3) := by decide +kernel
theorem d_X_slot_4 : decode b_X_slot 4 = .ok (.iload_n 1, 1) := by decide +kernel
theorem d_X_slot_5 : decode b_X_slot 5 = .ok (.invokevirtual 79, 3) := by decide +kernel
theorem d_X_slot_8 : decode b_X_slot 8 = .ok (.ifCond .ne 5, 3) := by decide +kernel
theorem d_X_slot_11 : decode b_X_slot 11 = .ok (.iconst (-1), 1) := by decide +kernel
theorem d_X_slot_12 : decode b_X_slot 12 = .ok (.ireturn, 1) := by decide +kernel
theorem d_X_slot_13 : decode b_X_slot 13 = .ok (.iload_n 2, 1) := by decide +kernel
theorem d_X_slot_14 : decode b_X_slot 14 = .ok (.tableswitch 96 0 5 #[38, 48, 58, 68, 78, 87], 38) := by decide +kernel
theorem d_X_slot_52 : decode b_X_slot 52 = .ok (.aload_n 0, 1) := by decide +kernel
theorem d_X_slot_53 : decode b_X_slot 53 = .ok (.getfield 18, 3) := by decide +kernel
theorem d_X_slot_56 : decode b_X_slot 56 = .ok (.getfield 96, 3) := by decide +kernel
theorem d_X_slot_59 : decode b_X_slot 59 = .ok (.iload_n 1, 1) := by decide +kernel
theorem d_X_slot_60 : decode b_X_slot 60 = .ok (.iaload, 1) := by decide +kernel
theorem d_X_slot_61 : decode b_X_slot 61 = .ok (.ireturn, 1) := by decide +kernel
theorem d_X_slot_62 : decode b_X_slot 62 = .ok (.aload_n 0, 1) := by decide +kernel
theorem d_X_slot_63 : decode b_X_slot 63 = .ok (.getfield 18, 3) := by decide +kernel
theorem d_X_slot_66 : decode b_X_slot 66 = .ok (.getfield 88, 3) := by decide +kernel
theorem d_X_slot_69 : decode b_X_slot 69 = .ok (.iload_n 1, 1) := by decide +kernel
theorem d_X_slot_70 : decode b_X_slot 70 = .ok (.iaload, 1) := by decide +kernel
theorem d_X_slot_71 : decode b_X_slot 71 = .ok (.ireturn, 1) := by decide +kernel
theorem d_X_slot_72 : decode b_X_slot 72 = .ok (.aload_n 0, 1) := by decide +kernel
theorem d_X_slot_73 : decode b_X_slot 73 = .ok (.getfield 18, 3) := by decide +kernel
theorem d_X_slot_76 : decode b_X_slot 76 = .ok (.getfield 99, 3) := by decide +kernel
theorem d_X_slot_79 : decode b_X_slot 79 = .ok (.iload_n 1, 1) := by decide +kernel
theorem d_X_slot_80 : decode b_X_slot 80 = .ok (.iaload, 1) := by decide +kernel
theorem d_X_slot_81 : decode b_X_slot 81 = .ok (.ireturn, 1) := by decide +kernel
theorem d_X_slot_82 : decode b_X_slot 82 = .ok (.aload_n 0, 1) := by decide +kernel
theorem d_X_slot_83 : decode b_X_slot 83 = .ok (.getfield 18, 3) := by decide +kernel
theorem d_X_slot_86 : decode b_X_slot 86 = .ok (.getfield 89, 3) := by decide +kernel
theorem d_X_slot_89 : decode b_X_slot 89 = .ok (.iload_n 1, 1) := by decide +kernel
theorem d_X_slot_90 : decode b_X_slot 90 = .ok (.iaload, 1) := by decide +kernel
theorem d_X_slot_91 : decode b_X_slot 91 = .ok (.ireturn, 1) := by decide +kernel
theorem d_X_slot_92 : decode b_X_slot 92 = .ok (.aload_n 0, 1) := by decide +kernel
theorem d_X_slot_93 : decode b_X_slot 93 = .ok (.getfield 43, 3) := by decide +kernel
theorem d_X_slot_96 : decode b_X_slot 96 = .ok (.iload_n 1, 1) := by decide +kernel
theorem d_X_slot_97 : decode b_X_slot 97 = .ok (.invokevirtual 102, 3) := by decide +kernel
theorem d_X_slot_100 : decode b_X_slot 100 = .ok (.ireturn, 1) := by decide +kernel
theorem d_X_slot_101 : decode b_X_slot 101 = .ok (.aload_n 0, 1) := by decide +kernel
theorem d_X_slot_102 : decode b_X_slot 102 = .ok (.getfield 34, 3) := by decide +kernel
theorem d_X_slot_105 : decode b_X_slot 105 = .ok (.iload_n 1, 1) := by decide +kernel
theorem d_X_slot_106 : decode b_X_slot 106 = .ok (.invokevirtual 105, 3) := by decide +kernel
theorem d_X_slot_109 : decode b_X_slot 109 = .ok (.ireturn, 1) := by decide +kernel
theorem d_X_slot_110 : decode b_X_slot 110 = .ok (.iconst (-1), 1) := by decide +kernel
theorem d_X_slot_111 : decode b_X_slot 111 = .ok (.ireturn, 1) := by decide +kernel
theorem d_X_steps_0 : decode b_X_steps 0 = .ok (.aload_n 0, 1) := by decide +kernel
theorem d_X_steps_1 : decode b_X_steps 1 = .ok (.getfield 43, 3) := by decide +kernel
theorem d_X_steps_4 : decode b_X_steps 4 = .ok (.getfield 115, 3) := by decide +kernel
theorem d_X_steps_7 : decode b_X_steps 7 = .ok (.ireturn, 1) := by decide +kernel
theorem d_X_many_0 : decode b_X_many 0 = .ok (.aload_n 0, 1) := by decide +kernel
theorem d_X_many_1 : decode b_X_many 1 = .ok (.getfield 43, 3) := by decide +kernel
theorem d_X_many_4 : decode b_X_many 4 = .ok (.getfield 118, 3) := by decide +kernel
theorem d_X_many_7 : decode b_X_many 7 = .ok (.ireturn, 1) := by decide +kernel
theorem d_X_score_0 : decode b_X_score 0 = .ok (.aload_n 0, 1) := by decide +kernel
theorem d_X_score_1 : decode b_X_score 1 = .ok (.getfield 34, 3) := by decide +kernel
theorem d_X_score_4 : decode b_X_score 4 = .ok (.getfield 121, 3) := by decide +kernel
theorem d_X_score_7 : decode b_X_score 7 = .ok (.ireturn, 1) := by decide +kernel
theorem d_X_letter_0 : decode b_X_letter 0 = .ok (.aload_n 0, 1) := by decide +kernel
theorem d_X_letter_1 : decode b_X_letter 1 = .ok (.getfield 18, 3) := by decide +kernel
theorem d_X_letter_4 : decode b_X_letter 4 = .ok (.iload_n 1, 1) := by decide +kernel
theorem d_X_letter_5 : decode b_X_letter 5 = .ok (.iload_n 2, 1) := by decide +kernel
theorem d_X_letter_6 : decode b_X_letter 6 = .ok (.invokevirtual 47, 3) := by decide +kernel
theorem d_X_letter_9 : decode b_X_letter 9 = .ok (.istore_n 3, 1) := by decide +kernel
theorem d_X_letter_10 : decode b_X_letter 10 = .ok (.iload_n 3, 1) := by decide +kernel
theorem d_X_letter_11 : decode b_X_letter 11 = .ok (.iconst (-1), 1) := by decide +kernel
theorem d_X_letter_12 : decode b_X_letter 12 = .ok (.if_icmp .ne 7, 3) := by decide +kernel
theorem d_X_letter_15 : decode b_X_letter 15 = .ok (.iconst (-1), 1) := by decide +kernel
theorem d_X_letter_16 : decode b_X_letter 16 = .ok (.goto 11, 3) := by decide +kernel
theorem d_X_letter_19 : decode b_X_letter 19 = .ok (.aload_n 0, 1) := by decide +kernel
theorem d_X_letter_20 : decode b_X_letter 20 = .ok (.getfield 34, 3) := by decide +kernel
theorem d_X_letter_23 : decode b_X_letter 23 = .ok (.iload_n 3, 1) := by decide +kernel
theorem d_X_letter_24 : decode b_X_letter 24 = .ok (.invokevirtual 124, 3) := by decide +kernel
theorem d_X_letter_27 : decode b_X_letter 27 = .ok (.ireturn, 1) := by decide +kernel
theorem d_X_check_0 : decode b_X_check 0 = .ok (.aload_n 0, 1) := by decide +kernel
theorem d_X_check_1 : decode b_X_check 1 = .ok (.getfield 34, 3) := by decide +kernel
theorem d_X_check_4 : decode b_X_check 4 = .ok (.invokevirtual 127, 3) := by decide +kernel
theorem d_X_check_7 : decode b_X_check 7 = .ok (.ireturn, 1) := by decide +kernel
theorem d_X_alike_0 : decode b_X_alike 0 = .ok (.iload_n 1, 1) := by decide +kernel
theorem d_X_alike_1 : decode b_X_alike 1 = .ok (.ifCond .lt 30, 3) := by decide +kernel
theorem d_X_alike_4 : decode b_X_alike 4 = .ok (.iload_n 1, 1) := by decide +kernel
theorem d_X_alike_5 : decode b_X_alike 5 = .ok (.iconst 3, 1) := by decide +kernel
theorem d_X_alike_6 : decode b_X_alike 6 = .ok (.if_icmp .gt 25, 3) := by decide +kernel
theorem d_X_alike_9 : decode b_X_alike 9 = .ok (.iload_n 1, 1) := by decide +kernel
theorem d_X_alike_10 : decode b_X_alike 10 = .ok (.iconst 3, 1) := by decide +kernel
theorem d_X_alike_11 : decode b_X_alike 11 = .ok (.if_icmp .ne 22, 3) := by decide +kernel
theorem d_X_alike_14 : decode b_X_alike 14 = .ok (.aload_n 0, 1) := by decide +kernel
theorem d_X_alike_15 : decode b_X_alike 15 = .ok (.getfield 18, 3) := by decide +kernel
theorem d_X_alike_18 : decode b_X_alike 18 = .ok (.getfield 131, 3) := by decide +kernel
theorem d_X_alike_21 : decode b_X_alike 21 = .ok (.aload_n 0, 1) := by decide +kernel
theorem d_X_alike_22 : decode b_X_alike 22 = .ok (.getfield 18, 3) := by decide +kernel
theorem d_X_alike_25 : decode b_X_alike 25 = .ok (.getfield 134, 3) := by decide +kernel
theorem d_X_alike_28 : decode b_X_alike 28 = .ok (.if_icmp .eq 5, 3) := by decide +kernel
theorem d_X_alike_31 : decode b_X_alike 31 = .ok (.iconst 0, 1) := by decide +kernel
theorem d_X_alike_32 : decode b_X_alike 32 = .ok (.ireturn, 1) := by decide +kernel
theorem d_X_alike_33 : decode b_X_alike 33 = .ok (.aload_n 0, 1) := by decide +kernel
theorem d_X_alike_34 : decode b_X_alike 34 = .ok (.getfield 18, 3) := by decide +kernel
theorem d_X_alike_37 : decode b_X_alike 37 = .ok (.iload_n 1, 1) := by decide +kernel
theorem d_X_alike_38 : decode b_X_alike 38 = .ok (.invokevirtual 137, 3) := by decide +kernel
theorem d_X_alike_41 : decode b_X_alike 41 = .ok (.ireturn, 1) := by decide +kernel
theorem d_X_parts_0 : decode b_X_parts 0 = .ok (.aload_n 0, 1) := by decide +kernel
theorem d_X_parts_1 : decode b_X_parts 1 = .ok (.getfield 18, 3) := by decide +kernel
theorem d_X_parts_4 : decode b_X_parts 4 = .ok (.invokevirtual 140, 3) := by decide +kernel
theorem d_X_parts_7 : decode b_X_parts 7 = .ok (.ireturn, 1) := by decide +kernel
theorem d_X_isStepLimit_0 : decode b_X_isStepLimit 0 = .ok (.iload_n 0, 1) := by decide +kernel
theorem d_X_isStepLimit_1 : decode b_X_isStepLimit 1 = .ok (.ifCond .lt 14, 3) := by decide +kernel
theorem d_X_isStepLimit_4 : decode b_X_isStepLimit 4 = .ok (.iload_n 0, 1) := by decide +kernel
theorem d_X_isStepLimit_5 : decode b_X_isStepLimit 5 = .ok (.sipush 20000, 3) := by decide +kernel
theorem d_X_isStepLimit_8 : decode b_X_isStepLimit 8 = .ok (.if_icmp .gt 7, 3) := by decide +kernel
theorem d_X_isStepLimit_11 : decode b_X_isStepLimit 11 = .ok (.iconst 1, 1) := by decide +kernel
theorem d_X_isStepLimit_12 : decode b_X_isStepLimit 12 = .ok (.goto 4, 3) := by decide +kernel
theorem d_X_isStepLimit_15 : decode b_X_isStepLimit 15 = .ok (.iconst 0, 1) := by decide +kernel
theorem d_X_isStepLimit_16 : decode b_X_isStepLimit 16 = .ok (.ireturn, 1) := by decide +kernel
theorem d_S_fillFrom_0 : decode b_S_fillFrom 0 = .ok (.iload_n 1, 1) := by decide +kernel
theorem d_S_fillFrom_1 : decode b_S_fillFrom 1 = .ok (.aload_n 0, 1) := by decide +kernel
theorem d_S_fillFrom_2 : decode b_S_fillFrom 2 = .ok (.getfield 22, 3) := by decide +kernel
theorem d_S_fillFrom_5 : decode b_S_fillFrom 5 = .ok (.getfield 83, 3) := by decide +kernel
theorem d_S_fillFrom_8 : decode b_S_fillFrom 8 = .ok (.if_icmp .lt 8, 3) := by decide +kernel
theorem d_S_fillFrom_11 : decode b_S_fillFrom 11 = .ok (.aload_n 0, 1) := by decide +kernel
theorem d_S_fillFrom_12 : decode b_S_fillFrom 12 = .ok (.invokevirtual 132, 3) := by decide +kernel
theorem d_S_fillFrom_15 : decode b_S_fillFrom 15 = .ok (.ireturn, 1) := by decide +kernel
theorem d_S_fillFrom_16 : decode b_S_fillFrom 16 = .ok (.aload_n 0, 1) := by decide +kernel
theorem d_S_fillFrom_17 : decode b_S_fillFrom 17 = .ok (.iload_n 1, 1) := by decide +kernel
theorem d_S_fillFrom_18 : decode b_S_fillFrom 18 = .ok (.invokevirtual 136, 3) := by decide +kernel
theorem d_S_fillFrom_21 : decode b_S_fillFrom 21 = .ok (.istore_n 2, 1) := by decide +kernel
theorem d_S_fillFrom_22 : decode b_S_fillFrom 22 = .ok (.iload_n 2, 1) := by decide +kernel
theorem d_S_fillFrom_23 : decode b_S_fillFrom 23 = .ok (.iconst (-1), 1) := by decide +kernel
theorem d_S_fillFrom_24 : decode b_S_fillFrom 24 = .ok (.if_icmp .ne 5, 3) := by decide +kernel
theorem d_S_fillFrom_27 : decode b_S_fillFrom 27 = .ok (.iconst 1, 1) := by decide +kernel
theorem d_S_fillFrom_28 : decode b_S_fillFrom 28 = .ok (.ireturn, 1) := by decide +kernel
theorem d_S_fillFrom_29 : decode b_S_fillFrom 29 = .ok (.iload_n 1, 1) := by decide +kernel
theorem d_S_fillFrom_30 : decode b_S_fillFrom 30 = .ok (.bipush 24, 2) := by decide +kernel
theorem d_S_fillFrom_32 : decode b_S_fillFrom 32 = .ok (.imul, 1) := by decide +kernel
theorem d_S_fillFrom_33 : decode b_S_fillFrom 33 = .ok (.iload_n 2, 1) := by decide +kernel
theorem d_S_fillFrom_34 : decode b_S_fillFrom 34 = .ok (.iadd, 1) := by decide +kernel
theorem d_S_fillFrom_35 : decode b_S_fillFrom 35 = .ok (.istore_n 3, 1) := by decide +kernel
theorem d_S_fillFrom_36 : decode b_S_fillFrom 36 = .ok (.aload_n 0, 1) := by decide +kernel
theorem d_S_fillFrom_37 : decode b_S_fillFrom 37 = .ok (.getfield 9, 3) := by decide +kernel
theorem d_S_fillFrom_40 : decode b_S_fillFrom 40 = .ok (.iload_n 3, 1) := by decide +kernel
theorem d_S_fillFrom_41 : decode b_S_fillFrom 41 = .ok (.laload, 1) := by decide +kernel
theorem d_S_fillFrom_42 : decode b_S_fillFrom 42 = .ok (.aload_n 0, 1) := by decide +kernel
theorem d_S_fillFrom_43 : decode b_S_fillFrom 43 = .ok (.getfield 76, 3) := by decide +kernel
theorem d_S_fillFrom_46 : decode b_S_fillFrom 46 = .ok (.ldc2_w 140, 3) := by decide +kernel
theorem d_S_fillFrom_49 : decode b_S_fillFrom 49 = .ok (.lxor, 1) := by decide +kernel
theorem d_S_fillFrom_50 : decode b_S_fillFrom 50 = .ok (.land, 1) := by decide +kernel
theorem d_S_fillFrom_51 : decode b_S_fillFrom 51 = .ok (.lstore 4, 2) := by decide +kernel
theorem d_S_fillFrom_53 : decode b_S_fillFrom 53 = .ok (.aload_n 0, 1) := by decide +kernel
theorem d_S_fillFrom_54 : decode b_S_fillFrom 54 = .ok (.getfield 15, 3) := by decide +kernel
theorem d_S_fillFrom_57 : decode b_S_fillFrom 57 = .ok (.iload_n 3, 1) := by decide +kernel
theorem d_S_fillFrom_58 : decode b_S_fillFrom 58 = .ok (.laload, 1) := by decide +kernel
theorem d_S_fillFrom_59 : decode b_S_fillFrom 59 = .ok (.aload_n 0, 1) := by decide +kernel
theorem d_S_fillFrom_60 : decode b_S_fillFrom 60 = .ok (.getfield 80, 3) := by decide +kernel
theorem d_S_fillFrom_63 : decode b_S_fillFrom 63 = .ok (.ldc2_w 140, 3) := by decide +kernel
theorem d_S_fillFrom_66 : decode b_S_fillFrom 66 = .ok (.lxor, 1) := by decide +kernel
theorem d_S_fillFrom_67 : decode b_S_fillFrom 67 = .ok (.land, 1) := by decide +kernel
theorem d_S_fillFrom_68 : decode b_S_fillFrom 68 = .ok (.lstore 6, 2) := by decide +kernel
theorem d_S_fillFrom_70 : decode b_S_fillFrom 70 = .ok (.iconst 1, 1) := by decide +kernel
theorem d_S_fillFrom_71 : decode b_S_fillFrom 71 = .ok (.istore 8, 2) := by decide +kernel
theorem d_S_fillFrom_73 : decode b_S_fillFrom 73 = .ok (.lload 4, 2) := by decide +kernel
theorem d_S_fillFrom_75 : decode b_S_fillFrom 75 = .ok (.invokestatic 70, 3) := by decide +kernel
theorem d_S_fillFrom_78 : decode b_S_fillFrom 78 = .ok (.lload 6, 2) := by decide +kernel
theorem d_S_fillFrom_80 : decode b_S_fillFrom 80 = .ok (.invokestatic 70, 3) := by decide +kernel
theorem d_S_fillFrom_83 : decode b_S_fillFrom 83 = .ok (.iadd, 1) := by decide +kernel
theorem d_S_fillFrom_84 : decode b_S_fillFrom 84 = .ok (.istore 9, 2) := by decide +kernel
theorem d_S_fillFrom_86 : decode b_S_fillFrom 86 = .ok (.iload 9, 2) := by decide +kernel
theorem d_S_fillFrom_88 : decode b_S_fillFrom 88 = .ok (.ifCond .le 71, 3) := by decide +kernel
theorem d_S_fillFrom_91 : decode b_S_fillFrom 91 = .ok (.iload 8, 2) := by decide +kernel
theorem d_S_fillFrom_93 : decode b_S_fillFrom 93 = .ok (.ifCond .eq 66, 3) := by decide +kernel
theorem d_S_fillFrom_96 : decode b_S_fillFrom 96 = .ok (.lload 4, 2) := by decide +kernel
theorem d_S_fillFrom_98 : decode b_S_fillFrom 98 = .ok (.lconst 0, 1) := by decide +kernel
theorem d_S_fillFrom_99 : decode b_S_fillFrom 99 = .ok (.lcmp, 1) := by decide +kernel
theorem d_S_fillFrom_100 : decode b_S_fillFrom 100 = .ok (.ifCond .eq 28, 3) := by decide +kernel
theorem d_S_fillFrom_103 : decode b_S_fillFrom 103 = .ok (.aload_n 0, 1) := by decide +kernel
theorem d_S_fillFrom_104 : decode b_S_fillFrom 104 = .ok (.iload_n 1, 1) := by decide +kernel
theorem d_S_fillFrom_105 : decode b_S_fillFrom 105 = .ok (.iload_n 2, 1) := by decide +kernel
theorem d_S_fillFrom_106 : decode b_S_fillFrom 106 = .ok (.lload 4, 2) := by decide +kernel
theorem d_S_fillFrom_108 : decode b_S_fillFrom 108 = .ok (.invokestatic 142, 3) := by decide +kernel
theorem d_S_fillFrom_111 : decode b_S_fillFrom 111 = .ok (.invokevirtual 145, 3) := by decide +kernel
theorem d_S_fillFrom_114 : decode b_S_fillFrom 114 = .ok (.istore 8, 2) := by decide +kernel
theorem d_S_fillFrom_116 : decode b_S_fillFrom 116 = .ok (.lload 4, 2) := by decide +kernel
theorem d_S_fillFrom_118 : decode b_S_fillFrom 118 = .ok (.lload 4, 2) := by decide +kernel
theorem d_S_fillFrom_120 : decode b_S_fillFrom 120 = .ok (.lconst 1, 1) := by decide +kernel
theorem d_S_fillFrom_121 : decode b_S_fillFrom 121 = .ok (.lsub, 1) := by decide +kernel
theorem d_S_fillFrom_122 : decode b_S_fillFrom 122 = .ok (.land, 1) := by decide +kernel
theorem d_S_fillFrom_123 : decode b_S_fillFrom 123 = .ok (.lstore 4, 2) := by decide +kernel
theorem d_S_fillFrom_125 : decode b_S_fillFrom 125 = .ok (.goto 28, 3) := by decide +kernel
theorem d_S_fillFrom_128 : decode b_S_fillFrom 128 = .ok (.aload_n 0, 1) := by decide +kernel
theorem d_S_fillFrom_129 : decode b_S_fillFrom 129 = .ok (.iload_n 1, 1) := by decide +kernel
theorem d_S_fillFrom_130 : decode b_S_fillFrom 130 = .ok (.iload_n 2, 1) := by decide +kernel
theorem d_S_fillFrom_131 : decode b_S_fillFrom 131 = .ok (.bipush 64, 2) := by decide +kernel
theorem d_S_fillFrom_133 : decode b_S_fillFrom 133 = .ok (.lload 6, 2) := by decide +kernel
theorem d_S_fillFrom_135 : decode b_S_fillFrom 135 = .ok (.invokestatic 142, 3) := by decide +kernel
theorem d_S_fillFrom_138 : decode b_S_fillFrom 138 = .ok (.iadd, 1) := by decide +kernel
theorem d_S_fillFrom_139 : decode b_S_fillFrom 139 = .ok (.invokevirtual 145, 3) := by decide +kernel
theorem d_S_fillFrom_142 : decode b_S_fillFrom 142 = .ok (.istore 8, 2) := by decide +kernel
theorem d_S_fillFrom_144 : decode b_S_fillFrom 144 = .ok (.lload 6, 2) := by decide +kernel
theorem d_S_fillFrom_146 : decode b_S_fillFrom 146 = .ok (.lload 6, 2) := by decide +kernel
theorem d_S_fillFrom_148 : decode b_S_fillFrom 148 = .ok (.lconst 1, 1) := by decide +kernel
theorem d_S_fillFrom_149 : decode b_S_fillFrom 149 = .ok (.lsub, 1) := by decide +kernel
theorem d_S_fillFrom_150 : decode b_S_fillFrom 150 = .ok (.land, 1) := by decide +kernel
theorem d_S_fillFrom_151 : decode b_S_fillFrom 151 = .ok (.lstore 6, 2) := by decide +kernel
theorem d_S_fillFrom_153 : decode b_S_fillFrom 153 = .ok (.iinc 9 (-1), 3) := by decide +kernel
theorem d_S_fillFrom_156 : decode b_S_fillFrom 156 = .ok (.goto (-70), 3) := by decide +kernel
theorem d_S_fillFrom_159 : decode b_S_fillFrom 159 = .ok (.iload 8, 2) := by decide +kernel
theorem d_S_fillFrom_161 : decode b_S_fillFrom 161 = .ok (.ireturn, 1) := by decide +kernel
theorem d_S_tryWord_0 : decode b_S_tryWord 0 = .ok (.aload_n 0, 1) := by decide +kernel
theorem d_S_tryWord_1 : decode b_S_tryWord 1 = .ok (.getfield 45, 3) := by decide +kernel
theorem d_S_tryWord_4 : decode b_S_tryWord 4 = .ok (.aload_n 0, 1) := by decide +kernel
theorem d_S_tryWord_5 : decode b_S_tryWord 5 = .ok (.getfield 34, 3) := by decide +kernel
theorem d_S_tryWord_8 : decode b_S_tryWord 8 = .ok (.if_icmp .lt 10, 3) := by decide +kernel
theorem d_S_tryWord_11 : decode b_S_tryWord 11 = .ok (.aload_n 0, 1) := by decide +kernel
theorem d_S_tryWord_12 : decode b_S_tryWord 12 = .ok (.iconst 1, 1) := by decide +kernel
theorem d_S_tryWord_13 : decode b_S_tryWord 13 = .ok (.putfield 42, 3) := by decide +kernel
theorem d_S_tryWord_16 : decode b_S_tryWord 16 = .ok (.iconst 0, 1) := by decide +kernel
theorem d_S_tryWord_17 : decode b_S_tryWord 17 = .ok (.ireturn, 1) := by decide +kernel
theorem d_S_tryWord_18 : decode b_S_tryWord 18 = .ok (.aload_n 0, 1) := by decide +kernel
theorem d_S_tryWord_19 : decode b_S_tryWord 19 = .ok (.dup, 1) := by decide +kernel
theorem d_S_tryWord_20 : decode b_S_tryWord 20 = .ok (.getfield 45, 3) := by decide +kernel
theorem d_S_tryWord_23 : decode b_S_tryWord 23 = .ok (.iconst 1, 1) := by decide +kernel
theorem d_S_tryWord_24 : decode b_S_tryWord 24 = .ok (.iadd, 1) := by decide +kernel
theorem d_S_tryWord_25 : decode b_S_tryWord 25 = .ok (.putfield 45, 3) := by decide +kernel
theorem d_S_tryWord_28 : decode b_S_tryWord 28 = .ok (.aload_n 0, 1) := by decide +kernel
theorem d_S_tryWord_29 : decode b_S_tryWord 29 = .ok (.getfield 26, 3) := by decide +kernel
theorem d_S_tryWord_32 : decode b_S_tryWord 32 = .ok (.getfield 156, 3) := by decide +kernel
theorem d_S_tryWord_35 : decode b_S_tryWord 35 = .ok (.iload_n 3, 1) := by decide +kernel
theorem d_S_tryWord_36 : decode b_S_tryWord 36 = .ok (.iaload, 1) := by decide +kernel
theorem d_S_tryWord_37 : decode b_S_tryWord 37 = .ok (.istore 4, 2) := by decide +kernel
theorem d_S_tryWord_39 : decode b_S_tryWord 39 = .ok (.aload_n 0, 1) := by decide +kernel
theorem d_S_tryWord_40 : decode b_S_tryWord 40 = .ok (.getfield 18, 3) := by decide +kernel
theorem d_S_tryWord_43 : decode b_S_tryWord 43 = .ok (.iload_n 2, 1) := by decide +kernel
theorem d_S_tryWord_44 : decode b_S_tryWord 44 = .ok (.iload 4, 2) := by decide +kernel
theorem d_S_tryWord_46 : decode b_S_tryWord 46 = .ok (.iastore, 1) := by decide +kernel
theorem d_S_tryWord_47 : decode b_S_tryWord 47 = .ok (.aload_n 0, 1) := by decide +kernel
theorem d_S_tryWord_48 : decode b_S_tryWord 48 = .ok (.dup, 1) := by decide +kernel
theorem d_S_tryWord_49 : decode b_S_tryWord 49 = .ok (.getfield 76, 3) := by decide +kernel
theorem d_S_tryWord_52 : decode b_S_tryWord 52 = .ok (.iload_n 3, 1) := by decide +kernel
theorem d_S_tryWord_53 : decode b_S_tryWord 53 = .ok (.invokestatic 119, 3) := by decide +kernel
theorem d_S_tryWord_56 : decode b_S_tryWord 56 = .ok (.lor, 1) := by decide +kernel
theorem d_S_tryWord_57 : decode b_S_tryWord 57 = .ok (.putfield 76, 3) := by decide +kernel
theorem d_S_tryWord_60 : decode b_S_tryWord 60 = .ok (.aload_n 0, 1) := by decide +kernel
theorem d_S_tryWord_61 : decode b_S_tryWord 61 = .ok (.dup, 1) := by decide +kernel
theorem d_S_tryWord_62 : decode b_S_tryWord 62 = .ok (.getfield 80, 3) := by decide +kernel
theorem d_S_tryWord_65 : decode b_S_tryWord 65 = .ok (.iload_n 3, 1) := by decide +kernel
theorem d_S_tryWord_66 : decode b_S_tryWord 66 = .ok (.invokestatic 123, 3) := by decide +kernel
theorem d_S_tryWord_69 : decode b_S_tryWord 69 = .ok (.lor, 1) := by decide +kernel
theorem d_S_tryWord_70 : decode b_S_tryWord 70 = .ok (.putfield 80, 3) := by decide +kernel
theorem d_S_tryWord_73 : decode b_S_tryWord 73 = .ok (.aload_n 0, 1) := by decide +kernel
theorem d_S_tryWord_74 : decode b_S_tryWord 74 = .ok (.dup, 1) := by decide +kernel
theorem d_S_tryWord_75 : decode b_S_tryWord 75 = .ok (.getfield 51, 3) := by decide +kernel
theorem d_S_tryWord_78 : decode b_S_tryWord 78 = .ok (.aload_n 0, 1) := by decide +kernel
theorem d_S_tryWord_79 : decode b_S_tryWord 79 = .ok (.getfield 26, 3) := by decide +kernel
theorem d_S_tryWord_82 : decode b_S_tryWord 82 = .ok (.getfield 159, 3) := by decide +kernel
theorem d_S_tryWord_85 : decode b_S_tryWord 85 = .ok (.iload 4, 2) := by decide +kernel
theorem d_S_tryWord_87 : decode b_S_tryWord 87 = .ok (.iaload, 1) := by decide +kernel
theorem d_S_tryWord_88 : decode b_S_tryWord 88 = .ok (.iadd, 1) := by decide +kernel
theorem d_S_tryWord_89 : decode b_S_tryWord 89 = .ok (.putfield 51, 3) := by decide +kernel
theorem d_S_tryWord_92 : decode b_S_tryWord 92 = .ok (.aload_n 0, 1) := by decide +kernel
theorem d_S_tryWord_93 : decode b_S_tryWord 93 = .ok (.iload_n 1, 1) := by decide +kernel
theorem d_S_tryWord_94 : decode b_S_tryWord 94 = .ok (.iload_n 2, 1) := by decide +kernel
theorem d_S_tryWord_95 : decode b_S_tryWord 95 = .ok (.iload 4, 2) := by decide +kernel
theorem d_S_tryWord_97 : decode b_S_tryWord 97 = .ok (.invokevirtual 162, 3) := by decide +kernel
theorem d_S_tryWord_100 : decode b_S_tryWord 100 = .ok (.aload_n 0, 1) := by decide +kernel
theorem d_S_tryWord_101 : decode b_S_tryWord 101 = .ok (.iload_n 1, 1) := by decide +kernel
theorem d_S_tryWord_102 : decode b_S_tryWord 102 = .ok (.iconst 1, 1) := by decide +kernel
theorem d_S_tryWord_103 : decode b_S_tryWord 103 = .ok (.iadd, 1) := by decide +kernel
theorem d_S_tryWord_104 : decode b_S_tryWord 104 = .ok (.invokevirtual 62, 3) := by decide +kernel
theorem d_S_tryWord_107 : decode b_S_tryWord 107 = .ok (.istore 5, 2) := by decide +kernel
theorem d_S_tryWord_109 : decode b_S_tryWord 109 = .ok (.aload_n 0, 1) := by decide +kernel
theorem d_S_tryWord_110 : decode b_S_tryWord 110 = .ok (.dup, 1) := by decide +kernel
theorem d_S_tryWord_111 : decode b_S_tryWord 111 = .ok (.getfield 51, 3) := by decide +kernel
theorem d_S_tryWord_114 : decode b_S_tryWord 114 = .ok (.aload_n 0, 1) := by decide +kernel
theorem d_S_tryWord_115 : decode b_S_tryWord 115 = .ok (.getfield 26, 3) := by decide +kernel
theorem d_S_tryWord_118 : decode b_S_tryWord 118 = .ok (.getfield 159, 3) := by decide +kernel
theorem d_S_tryWord_121 : decode b_S_tryWord 121 = .ok (.iload 4, 2) := by decide +kernel
theorem d_S_tryWord_123 : decode b_S_tryWord 123 = .ok (.iaload, 1) := by decide +kernel
theorem d_S_tryWord_124 : decode b_S_tryWord 124 = .ok (.isub, 1) := by decide +kernel
theorem d_S_tryWord_125 : decode b_S_tryWord 125 = .ok (.putfield 51, 3) := by decide +kernel
theorem d_S_tryWord_128 : decode b_S_tryWord 128 = .ok (.aload_n 0, 1) := by decide +kernel
theorem d_S_tryWord_129 : decode b_S_tryWord 129 = .ok (.dup, 1) := by decide +kernel
theorem d_S_tryWord_130 : decode b_S_tryWord 130 = .ok (.getfield 76, 3) := by decide +kernel
theorem d_S_tryWord_133 : decode b_S_tryWord 133 = .ok (.iload_n 3, 1) := by decide +kernel
theorem d_S_tryWord_134 : decode b_S_tryWord 134 = .ok (.invokestatic 119, 3) := by decide +kernel
theorem d_S_tryWord_137 : decode b_S_tryWord 137 = .ok (.ldc2_w 140, 3) := by decide +kernel
theorem d_S_tryWord_140 : decode b_S_tryWord 140 = .ok (.lxor, 1) := by decide +kernel
theorem d_S_tryWord_141 : decode b_S_tryWord 141 = .ok (.land, 1) := by decide +kernel
theorem d_S_tryWord_142 : decode b_S_tryWord 142 = .ok (.putfield 76, 3) := by decide +kernel
theorem d_S_tryWord_145 : decode b_S_tryWord 145 = .ok (.aload_n 0, 1) := by decide +kernel
theorem d_S_tryWord_146 : decode b_S_tryWord 146 = .ok (.dup, 1) := by decide +kernel
theorem d_S_tryWord_147 : decode b_S_tryWord 147 = .ok (.getfield 80, 3) := by decide +kernel
theorem d_S_tryWord_150 : decode b_S_tryWord 150 = .ok (.iload_n 3, 1) := by decide +kernel
theorem d_S_tryWord_151 : decode b_S_tryWord 151 = .ok (.invokestatic 123, 3) := by decide +kernel
theorem d_S_tryWord_154 : decode b_S_tryWord 154 = .ok (.ldc2_w 140, 3) := by decide +kernel
theorem d_S_tryWord_157 : decode b_S_tryWord 157 = .ok (.lxor, 1) := by decide +kernel
theorem d_S_tryWord_158 : decode b_S_tryWord 158 = .ok (.land, 1) := by decide +kernel
theorem d_S_tryWord_159 : decode b_S_tryWord 159 = .ok (.putfield 80, 3) := by decide +kernel
theorem d_S_tryWord_162 : decode b_S_tryWord 162 = .ok (.aload_n 0, 1) := by decide +kernel
theorem d_S_tryWord_163 : decode b_S_tryWord 163 = .ok (.getfield 18, 3) := by decide +kernel
theorem d_S_tryWord_166 : decode b_S_tryWord 166 = .ok (.iload_n 2, 1) := by decide +kernel
theorem d_S_tryWord_167 : decode b_S_tryWord 167 = .ok (.iconst (-1), 1) := by decide +kernel
theorem d_S_tryWord_168 : decode b_S_tryWord 168 = .ok (.iastore, 1) := by decide +kernel
theorem d_S_tryWord_169 : decode b_S_tryWord 169 = .ok (.iload 5, 2) := by decide +kernel
theorem d_S_tryWord_171 : decode b_S_tryWord 171 = .ok (.ireturn, 1) := by decide +kernel
theorem d_S_seek_0 : decode b_S_seek 0 = .ok (.aload_n 0, 1) := by decide +kernel
theorem d_S_seek_1 : decode b_S_seek 1 = .ok (.iload_n 1, 1) := by decide +kernel
theorem d_S_seek_2 : decode b_S_seek 2 = .ok (.putfield 34, 3) := by decide +kernel
theorem d_S_seek_5 : decode b_S_seek 5 = .ok (.aload_n 0, 1) := by decide +kernel
theorem d_S_seek_6 : decode b_S_seek 6 = .ok (.iload_n 2, 1) := by decide +kernel
theorem d_S_seek_7 : decode b_S_seek 7 = .ok (.putfield 38, 3) := by decide +kernel
theorem d_S_seek_10 : decode b_S_seek 10 = .ok (.aload_n 0, 1) := by decide +kernel
theorem d_S_seek_11 : decode b_S_seek 11 = .ok (.iconst 0, 1) := by decide +kernel
theorem d_S_seek_12 : decode b_S_seek 12 = .ok (.putfield 42, 3) := by decide +kernel
theorem d_S_seek_15 : decode b_S_seek 15 = .ok (.aload_n 0, 1) := by decide +kernel
theorem d_S_seek_16 : decode b_S_seek 16 = .ok (.iconst 0, 1) := by decide +kernel
theorem d_S_seek_17 : decode b_S_seek 17 = .ok (.putfield 45, 3) := by decide +kernel
theorem d_S_seek_20 : decode b_S_seek 20 = .ok (.aload_n 0, 1) := by decide +kernel
theorem d_S_seek_21 : decode b_S_seek 21 = .ok (.iconst 0, 1) := by decide +kernel
theorem d_S_seek_22 : decode b_S_seek 22 = .ok (.putfield 48, 3) := by decide +kernel
theorem d_S_seek_25 : decode b_S_seek 25 = .ok (.aload_n 0, 1) := by decide +kernel
theorem d_S_seek_26 : decode b_S_seek 26 = .ok (.iconst 0, 1) := by decide +kernel
theorem d_S_seek_27 : decode b_S_seek 27 = .ok (.putfield 51, 3) := by decide +kernel
theorem d_S_seek_30 : decode b_S_seek 30 = .ok (.aload_n 0, 1) := by decide +kernel
theorem d_S_seek_31 : decode b_S_seek 31 = .ok (.getfield 30, 3) := by decide +kernel
theorem d_S_seek_34 : decode b_S_seek 34 = .ok (.invokevirtual 54, 3) := by decide +kernel
theorem d_S_seek_37 : decode b_S_seek 37 = .ok (.aload_n 0, 1) := by decide +kernel
theorem d_S_seek_38 : decode b_S_seek 38 = .ok (.invokevirtual 59, 3) := by decide +kernel
theorem d_S_seek_41 : decode b_S_seek 41 = .ok (.aload_n 0, 1) := by decide +kernel
theorem d_S_seek_42 : decode b_S_seek 42 = .ok (.iconst 0, 1) := by decide +kernel
theorem d_S_seek_43 : decode b_S_seek 43 = .ok (.invokevirtual 62, 3) := by decide +kernel
theorem d_S_seek_46 : decode b_S_seek 46 = .ok (.pop, 1) := by decide +kernel
theorem d_S_seek_47 : decode b_S_seek 47 = .ok (.aload_n 0, 1) := by decide +kernel
theorem d_S_seek_48 : decode b_S_seek 48 = .ok (.getfield 42, 3) := by decide +kernel
theorem d_S_seek_51 : decode b_S_seek 51 = .ok (.ifCond .eq 5, 3) := by decide +kernel
theorem d_S_seek_54 : decode b_S_seek 54 = .ok (.iconst 2, 1) := by decide +kernel
theorem d_S_seek_55 : decode b_S_seek 55 = .ok (.ireturn, 1) := by decide +kernel
theorem d_S_seek_56 : decode b_S_seek 56 = .ok (.aload_n 0, 1) := by decide +kernel
theorem d_S_seek_57 : decode b_S_seek 57 = .ok (.getfield 48, 3) := by decide +kernel
theorem d_S_seek_60 : decode b_S_seek 60 = .ok (.ifCond .le 7, 3) := by decide +kernel
theorem d_S_seek_63 : decode b_S_seek 63 = .ok (.iconst 0, 1) := by decide +kernel
theorem d_S_seek_64 : decode b_S_seek 64 = .ok (.goto 4, 3) := by decide +kernel
theorem d_S_seek_67 : decode b_S_seek 67 = .ok (.iconst 1, 1) := by decide +kernel
theorem d_S_seek_68 : decode b_S_seek 68 = .ok (.ireturn, 1) := by decide +kernel
theorem d_X_run_0 : decode b_X_run 0 = .ok (.iload_n 1, 1) := by decide +kernel
theorem d_X_run_1 : decode b_X_run 1 = .ok (.invokestatic 108, 3) := by decide +kernel
theorem d_X_run_4 : decode b_X_run 4 = .ok (.ifCond .eq 15, 3) := by decide +kernel
theorem d_X_run_7 : decode b_X_run 7 = .ok (.aload_n 0, 1) := by decide +kernel
theorem d_X_run_8 : decode b_X_run 8 = .ok (.getfield 43, 3) := by decide +kernel
end
section
theorem d_X_run_11 : decode b_X_run 11 = .ok (.iload_n 1, 1) := by decide +kernel
theorem d_X_run_12 : decode b_X_run 12 = .ok (.iconst 0, 1) := by decide +kernel
theorem d_X_run_13 : decode b_X_run 13 = .ok (.invokevirtual 111, 3) := by decide +kernel
theorem d_X_run_16 : decode b_X_run 16 = .ok (.goto 4, 3) := by decide +kernel
theorem d_X_run_19 : decode b_X_run 19 = .ok (.iconst (-1), 1) := by decide +kernel
theorem d_X_run_20 : decode b_X_run 20 = .ok (.ireturn, 1) := by decide +kernel
theorem d_X_best_0 : decode b_X_best 0 = .ok (.iload_n 1, 1) := by decide +kernel
theorem d_X_best_1 : decode b_X_best 1 = .ok (.invokestatic 108, 3) := by decide +kernel
theorem d_X_best_4 : decode b_X_best 4 = .ok (.ifCond .eq 15, 3) := by decide +kernel
theorem d_X_best_7 : decode b_X_best 7 = .ok (.aload_n 0, 1) := by decide +kernel
theorem d_X_best_8 : decode b_X_best 8 = .ok (.getfield 43, 3) := by decide +kernel
theorem d_X_best_11 : decode b_X_best 11 = .ok (.iload_n 1, 1) := by decide +kernel
theorem d_X_best_12 : decode b_X_best 12 = .ok (.iconst 1, 1) := by decide +kernel
theorem d_X_best_13 : decode b_X_best 13 = .ok (.invokevirtual 111, 3) := by decide +kernel
theorem d_X_best_16 : decode b_X_best 16 = .ok (.goto 4, 3) := by decide +kernel
theorem d_X_best_19 : decode b_X_best 19 = .ok (.iconst (-1), 1) := by decide +kernel
theorem d_X_best_20 : decode b_X_best 20 = .ok (.ireturn, 1) := by decide +kernel
theorem d_M_isCell_0 : decode b_M_isCell 0 = .ok (.iload_n 1, 1) := by decide +kernel
theorem d_M_isCell_1 : decode b_M_isCell 1 = .ok (.ifCond .lt 27, 3) := by decide +kernel
theorem d_M_isCell_4 : decode b_M_isCell 4 = .ok (.iload_n 1, 1) := by decide +kernel
theorem d_M_isCell_5 : decode b_M_isCell 5 = .ok (.aload_n 0, 1) := by decide +kernel
theorem d_M_isCell_6 : decode b_M_isCell 6 = .ok (.getfield 65, 3) := by decide +kernel
theorem d_M_isCell_9 : decode b_M_isCell 9 = .ok (.if_icmp .ge 19, 3) := by decide +kernel
theorem d_M_isCell_12 : decode b_M_isCell 12 = .ok (.iload_n 2, 1) := by decide +kernel
theorem d_M_isCell_13 : decode b_M_isCell 13 = .ok (.ifCond .lt 15, 3) := by decide +kernel
theorem d_M_isCell_16 : decode b_M_isCell 16 = .ok (.iload_n 2, 1) := by decide +kernel
theorem d_M_isCell_17 : decode b_M_isCell 17 = .ok (.aload_n 0, 1) := by decide +kernel
theorem d_M_isCell_18 : decode b_M_isCell 18 = .ok (.getfield 69, 3) := by decide +kernel
theorem d_M_isCell_21 : decode b_M_isCell 21 = .ok (.if_icmp .ge 7, 3) := by decide +kernel
theorem d_M_isCell_24 : decode b_M_isCell 24 = .ok (.iconst 1, 1) := by decide +kernel
theorem d_M_isCell_25 : decode b_M_isCell 25 = .ok (.goto 4, 3) := by decide +kernel
theorem d_M_isCell_28 : decode b_M_isCell 28 = .ok (.iconst 0, 1) := by decide +kernel
theorem d_M_isCell_29 : decode b_M_isCell 29 = .ok (.ireturn, 1) := by decide +kernel
theorem d_M_isOpen_0 : decode b_M_isOpen 0 = .ok (.aload_n 0, 1) := by decide +kernel
theorem d_M_isOpen_1 : decode b_M_isOpen 1 = .ok (.iload_n 1, 1) := by decide +kernel
theorem d_M_isOpen_2 : decode b_M_isOpen 2 = .ok (.iload_n 2, 1) := by decide +kernel
theorem d_M_isOpen_3 : decode b_M_isOpen 3 = .ok (.invokevirtual 78, 3) := by decide +kernel
theorem d_M_isOpen_6 : decode b_M_isOpen 6 = .ok (.ifCond .eq 23, 3) := by decide +kernel
theorem d_M_isOpen_9 : decode b_M_isOpen 9 = .ok (.aload_n 0, 1) := by decide +kernel
theorem d_M_isOpen_10 : decode b_M_isOpen 10 = .ok (.getfield 7, 3) := by decide +kernel
theorem d_M_isOpen_13 : decode b_M_isOpen 13 = .ok (.aload_n 0, 1) := by decide +kernel
theorem d_M_isOpen_14 : decode b_M_isOpen 14 = .ok (.getfield 65, 3) := by decide +kernel
theorem d_M_isOpen_17 : decode b_M_isOpen 17 = .ok (.iload_n 2, 1) := by decide +kernel
theorem d_M_isOpen_18 : decode b_M_isOpen 18 = .ok (.imul, 1) := by decide +kernel
theorem d_M_isOpen_19 : decode b_M_isOpen 19 = .ok (.iload_n 1, 1) := by decide +kernel
theorem d_M_isOpen_20 : decode b_M_isOpen 20 = .ok (.iadd, 1) := by decide +kernel
theorem d_M_isOpen_21 : decode b_M_isOpen 21 = .ok (.baload, 1) := by decide +kernel
theorem d_M_isOpen_22 : decode b_M_isOpen 22 = .ok (.ifCond .ne 7, 3) := by decide +kernel
theorem d_M_isOpen_25 : decode b_M_isOpen 25 = .ok (.iconst 1, 1) := by decide +kernel
theorem d_M_isOpen_26 : decode b_M_isOpen 26 = .ok (.goto 4, 3) := by decide +kernel
theorem d_M_isOpen_29 : decode b_M_isOpen 29 = .ok (.iconst 0, 1) := by decide +kernel
theorem d_M_isOpen_30 : decode b_M_isOpen 30 = .ok (.ireturn, 1) := by decide +kernel
theorem d_M_findSlots_0 : decode b_M_findSlots 0 = .ok (.aload_n 0, 1) := by decide +kernel
theorem d_M_findSlots_1 : decode b_M_findSlots 1 = .ok (.iconst 0, 1) := by decide +kernel
theorem d_M_findSlots_2 : decode b_M_findSlots 2 = .ok (.putfield 82, 3) := by decide +kernel
theorem d_M_findSlots_5 : decode b_M_findSlots 5 = .ok (.iconst 0, 1) := by decide +kernel
theorem d_M_findSlots_6 : decode b_M_findSlots 6 = .ok (.istore_n 1, 1) := by decide +kernel
theorem d_M_findSlots_7 : decode b_M_findSlots 7 = .ok (.iload_n 1, 1) := by decide +kernel
theorem d_M_findSlots_8 : decode b_M_findSlots 8 = .ok (.iconst 2, 1) := by decide +kernel
theorem d_M_findSlots_9 : decode b_M_findSlots 9 = .ok (.if_icmp .ge 174, 3) := by decide +kernel
theorem d_M_findSlots_12 : decode b_M_findSlots 12 = .ok (.aload_n 0, 1) := by decide +kernel
theorem d_M_findSlots_13 : decode b_M_findSlots 13 = .ok (.aload_n 0, 1) := by decide +kernel
theorem d_M_findSlots_14 : decode b_M_findSlots 14 = .ok (.getfield 82, 3) := by decide +kernel
theorem d_M_findSlots_17 : decode b_M_findSlots 17 = .ok (.putfield 85, 3) := by decide +kernel
theorem d_M_findSlots_20 : decode b_M_findSlots 20 = .ok (.iconst 0, 1) := by decide +kernel
theorem d_M_findSlots_21 : decode b_M_findSlots 21 = .ok (.istore_n 2, 1) := by decide +kernel
theorem d_M_findSlots_22 : decode b_M_findSlots 22 = .ok (.iload_n 2, 1) := by decide +kernel
theorem d_M_findSlots_23 : decode b_M_findSlots 23 = .ok (.aload_n 0, 1) := by decide +kernel
theorem d_M_findSlots_24 : decode b_M_findSlots 24 = .ok (.getfield 65, 3) := by decide +kernel
theorem d_M_findSlots_27 : decode b_M_findSlots 27 = .ok (.aload_n 0, 1) := by decide +kernel
theorem d_M_findSlots_28 : decode b_M_findSlots 28 = .ok (.getfield 69, 3) := by decide +kernel
theorem d_M_findSlots_31 : decode b_M_findSlots 31 = .ok (.imul, 1) := by decide +kernel
theorem d_M_findSlots_32 : decode b_M_findSlots 32 = .ok (.if_icmp .ge 145, 3) := by decide +kernel
theorem d_M_findSlots_35 : decode b_M_findSlots 35 = .ok (.iload_n 2, 1) := by decide +kernel
theorem d_M_findSlots_36 : decode b_M_findSlots 36 = .ok (.aload_n 0, 1) := by decide +kernel
theorem d_M_findSlots_37 : decode b_M_findSlots 37 = .ok (.getfield 65, 3) := by decide +kernel
theorem d_M_findSlots_40 : decode b_M_findSlots 40 = .ok (.irem, 1) := by decide +kernel
theorem d_M_findSlots_41 : decode b_M_findSlots 41 = .ok (.istore_n 3, 1) := by decide +kernel
theorem d_M_findSlots_42 : decode b_M_findSlots 42 = .ok (.iload_n 2, 1) := by decide +kernel
theorem d_M_findSlots_43 : decode b_M_findSlots 43 = .ok (.aload_n 0, 1) := by decide +kernel
theorem d_M_findSlots_44 : decode b_M_findSlots 44 = .ok (.getfield 65, 3) := by decide +kernel
theorem d_M_findSlots_47 : decode b_M_findSlots 47 = .ok (.idiv, 1) := by decide +kernel
theorem d_M_findSlots_48 : decode b_M_findSlots 48 = .ok (.istore 4, 2) := by decide +kernel
theorem d_M_findSlots_50 : decode b_M_findSlots 50 = .ok (.iconst 1, 1) := by decide +kernel
theorem d_M_findSlots_51 : decode b_M_findSlots 51 = .ok (.iload_n 1, 1) := by decide +kernel
theorem d_M_findSlots_52 : decode b_M_findSlots 52 = .ok (.isub, 1) := by decide +kernel
theorem d_M_findSlots_53 : decode b_M_findSlots 53 = .ok (.istore 5, 2) := by decide +kernel
theorem d_M_findSlots_55 : decode b_M_findSlots 55 = .ok (.iconst 0, 1) := by decide +kernel
theorem d_M_findSlots_56 : decode b_M_findSlots 56 = .ok (.istore 6, 2) := by decide +kernel
theorem d_M_findSlots_58 : decode b_M_findSlots 58 = .ok (.aload_n 0, 1) := by decide +kernel
theorem d_M_findSlots_59 : decode b_M_findSlots 59 = .ok (.iload_n 3, 1) := by decide +kernel
theorem d_M_findSlots_60 : decode b_M_findSlots 60 = .ok (.iload 6, 2) := by decide +kernel
theorem d_M_findSlots_62 : decode b_M_findSlots 62 = .ok (.iload 5, 2) := by decide +kernel
theorem d_M_findSlots_64 : decode b_M_findSlots 64 = .ok (.imul, 1) := by decide +kernel
theorem d_M_findSlots_65 : decode b_M_findSlots 65 = .ok (.iadd, 1) := by decide +kernel
theorem d_M_findSlots_66 : decode b_M_findSlots 66 = .ok (.iload 4, 2) := by decide +kernel
theorem d_M_findSlots_68 : decode b_M_findSlots 68 = .ok (.iload 6, 2) := by decide +kernel
theorem d_M_findSlots_70 : decode b_M_findSlots 70 = .ok (.iload_n 1, 1) := by decide +kernel
theorem d_M_findSlots_71 : decode b_M_findSlots 71 = .ok (.imul, 1) := by decide +kernel
theorem d_M_findSlots_72 : decode b_M_findSlots 72 = .ok (.iadd, 1) := by decide +kernel
theorem d_M_findSlots_73 : decode b_M_findSlots 73 = .ok (.invokevirtual 88, 3) := by decide +kernel
theorem d_M_findSlots_76 : decode b_M_findSlots 76 = .ok (.ifCond .eq 9, 3) := by decide +kernel
theorem d_M_findSlots_79 : decode b_M_findSlots 79 = .ok (.iinc 6 1, 3) := by decide +kernel
theorem d_M_findSlots_82 : decode b_M_findSlots 82 = .ok (.goto (-24), 3) := by decide +kernel
theorem d_M_findSlots_85 : decode b_M_findSlots 85 = .ok (.iload 6, 2) := by decide +kernel
theorem d_M_findSlots_87 : decode b_M_findSlots 87 = .ok (.iconst 2, 1) := by decide +kernel
theorem d_M_findSlots_88 : decode b_M_findSlots 88 = .ok (.if_icmp .lt 83, 3) := by decide +kernel
theorem d_M_findSlots_91 : decode b_M_findSlots 91 = .ok (.aload_n 0, 1) := by decide +kernel
theorem d_M_findSlots_92 : decode b_M_findSlots 92 = .ok (.iload_n 3, 1) := by decide +kernel
theorem d_M_findSlots_93 : decode b_M_findSlots 93 = .ok (.iload 5, 2) := by decide +kernel
theorem d_M_findSlots_95 : decode b_M_findSlots 95 = .ok (.isub, 1) := by decide +kernel
theorem d_M_findSlots_96 : decode b_M_findSlots 96 = .ok (.iload 4, 2) := by decide +kernel
theorem d_M_findSlots_98 : decode b_M_findSlots 98 = .ok (.iload_n 1, 1) := by decide +kernel
theorem d_M_findSlots_99 : decode b_M_findSlots 99 = .ok (.isub, 1) := by decide +kernel
theorem d_M_findSlots_100 : decode b_M_findSlots 100 = .ok (.invokevirtual 88, 3) := by decide +kernel
theorem d_M_findSlots_103 : decode b_M_findSlots 103 = .ok (.ifCond .eq 6, 3) := by decide +kernel
theorem d_M_findSlots_106 : decode b_M_findSlots 106 = .ok (.goto 65, 3) := by decide +kernel
theorem d_M_findSlots_109 : decode b_M_findSlots 109 = .ok (.aload_n 0, 1) := by decide +kernel
theorem d_M_findSlots_110 : decode b_M_findSlots 110 = .ok (.getfield 29, 3) := by decide +kernel
theorem d_M_findSlots_113 : decode b_M_findSlots 113 = .ok (.aload_n 0, 1) := by decide +kernel
theorem d_M_findSlots_114 : decode b_M_findSlots 114 = .ok (.getfield 82, 3) := by decide +kernel
theorem d_M_findSlots_117 : decode b_M_findSlots 117 = .ok (.iload_n 2, 1) := by decide +kernel
theorem d_M_findSlots_118 : decode b_M_findSlots 118 = .ok (.iastore, 1) := by decide +kernel
theorem d_M_findSlots_119 : decode b_M_findSlots 119 = .ok (.aload_n 0, 1) := by decide +kernel
theorem d_M_findSlots_120 : decode b_M_findSlots 120 = .ok (.getfield 32, 3) := by decide +kernel
theorem d_M_findSlots_123 : decode b_M_findSlots 123 = .ok (.aload_n 0, 1) := by decide +kernel
theorem d_M_findSlots_124 : decode b_M_findSlots 124 = .ok (.getfield 82, 3) := by decide +kernel
theorem d_M_findSlots_127 : decode b_M_findSlots 127 = .ok (.iload 6, 2) := by decide +kernel
theorem d_M_findSlots_129 : decode b_M_findSlots 129 = .ok (.iastore, 1) := by decide +kernel
theorem d_M_findSlots_130 : decode b_M_findSlots 130 = .ok (.aload_n 0, 1) := by decide +kernel
theorem d_M_findSlots_131 : decode b_M_findSlots 131 = .ok (.getfield 35, 3) := by decide +kernel
theorem d_M_findSlots_134 : decode b_M_findSlots 134 = .ok (.aload_n 0, 1) := by decide +kernel
theorem d_M_findSlots_135 : decode b_M_findSlots 135 = .ok (.getfield 82, 3) := by decide +kernel
theorem d_M_findSlots_138 : decode b_M_findSlots 138 = .ok (.iload_n 1, 1) := by decide +kernel
theorem d_M_findSlots_139 : decode b_M_findSlots 139 = .ok (.ifCond .ne 7, 3) := by decide +kernel
theorem d_M_findSlots_142 : decode b_M_findSlots 142 = .ok (.iconst 1, 1) := by decide +kernel
theorem d_M_findSlots_143 : decode b_M_findSlots 143 = .ok (.goto 7, 3) := by decide +kernel
theorem d_M_findSlots_146 : decode b_M_findSlots 146 = .ok (.aload_n 0, 1) := by decide +kernel
theorem d_M_findSlots_147 : decode b_M_findSlots 147 = .ok (.getfield 65, 3) := by decide +kernel
theorem d_M_findSlots_150 : decode b_M_findSlots 150 = .ok (.iastore, 1) := by decide +kernel
theorem d_M_findSlots_151 : decode b_M_findSlots 151 = .ok (.aload_n 0, 1) := by decide +kernel
theorem d_M_findSlots_152 : decode b_M_findSlots 152 = .ok (.getfield 38, 3) := by decide +kernel
theorem d_M_findSlots_155 : decode b_M_findSlots 155 = .ok (.aload_n 0, 1) := by decide +kernel
theorem d_M_findSlots_156 : decode b_M_findSlots 156 = .ok (.getfield 82, 3) := by decide +kernel
theorem d_M_findSlots_159 : decode b_M_findSlots 159 = .ok (.iconst (-1), 1) := by decide +kernel
theorem d_M_findSlots_160 : decode b_M_findSlots 160 = .ok (.iastore, 1) := by decide +kernel
theorem d_M_findSlots_161 : decode b_M_findSlots 161 = .ok (.aload_n 0, 1) := by decide +kernel
theorem d_M_findSlots_162 : decode b_M_findSlots 162 = .ok (.dup, 1) := by decide +kernel
theorem d_M_findSlots_163 : decode b_M_findSlots 163 = .ok (.getfield 82, 3) := by decide +kernel
theorem d_M_findSlots_166 : decode b_M_findSlots 166 = .ok (.iconst 1, 1) := by decide +kernel
theorem d_M_findSlots_167 : decode b_M_findSlots 167 = .ok (.iadd, 1) := by decide +kernel
theorem d_M_findSlots_168 : decode b_M_findSlots 168 = .ok (.putfield 82, 3) := by decide +kernel
theorem d_M_findSlots_171 : decode b_M_findSlots 171 = .ok (.iinc 2 1, 3) := by decide +kernel
theorem d_M_findSlots_174 : decode b_M_findSlots 174 = .ok (.goto (-152), 3) := by decide +kernel
theorem d_M_findSlots_177 : decode b_M_findSlots 177 = .ok (.iinc 1 1, 3) := by decide +kernel
theorem d_M_findSlots_180 : decode b_M_findSlots 180 = .ok (.goto (-173), 3) := by decide +kernel
theorem d_M_findSlots_183 : decode b_M_findSlots 183 = .ok (.return_, 1) := by decide +kernel
theorem d_M_black_0 : decode b_M_black 0 = .ok (.aload_n 0, 1) := by decide +kernel
theorem d_M_black_1 : decode b_M_black 1 = .ok (.iconst 0, 1) := by decide +kernel
theorem d_M_black_2 : decode b_M_black 2 = .ok (.putfield 75, 3) := by decide +kernel
theorem d_M_black_5 : decode b_M_black 5 = .ok (.aload_n 0, 1) := by decide +kernel
theorem d_M_black_6 : decode b_M_black 6 = .ok (.iload_n 1, 1) := by decide +kernel
theorem d_M_black_7 : decode b_M_black 7 = .ok (.iload_n 2, 1) := by decide +kernel
theorem d_M_black_8 : decode b_M_black 8 = .ok (.invokevirtual 78, 3) := by decide +kernel
theorem d_M_black_11 : decode b_M_black 11 = .ok (.ifCond .eq 20, 3) := by decide +kernel
theorem d_M_black_14 : decode b_M_black 14 = .ok (.aload_n 0, 1) := by decide +kernel
theorem d_M_black_15 : decode b_M_black 15 = .ok (.getfield 7, 3) := by decide +kernel
theorem d_M_black_18 : decode b_M_black 18 = .ok (.aload_n 0, 1) := by decide +kernel
theorem d_M_black_19 : decode b_M_black 19 = .ok (.getfield 65, 3) := by decide +kernel
theorem d_M_black_22 : decode b_M_black 22 = .ok (.iload_n 2, 1) := by decide +kernel
theorem d_M_black_23 : decode b_M_black 23 = .ok (.imul, 1) := by decide +kernel
theorem d_M_black_24 : decode b_M_black 24 = .ok (.iload_n 1, 1) := by decide +kernel
theorem d_M_black_25 : decode b_M_black 25 = .ok (.iadd, 1) := by decide +kernel
theorem d_M_black_26 : decode b_M_black 26 = .ok (.baload, 1) := by decide +kernel
theorem d_M_black_27 : decode b_M_black 27 = .ok (.iload_n 3, 1) := by decide +kernel
theorem d_M_black_28 : decode b_M_black 28 = .ok (.if_icmp .ne 5, 3) := by decide +kernel
theorem d_M_black_31 : decode b_M_black 31 = .ok (.iconst 0, 1) := by decide +kernel
theorem d_M_black_32 : decode b_M_black 32 = .ok (.ireturn, 1) := by decide +kernel
theorem d_M_black_33 : decode b_M_black 33 = .ok (.aload_n 0, 1) := by decide +kernel
theorem d_M_black_34 : decode b_M_black 34 = .ok (.getfield 7, 3) := by decide +kernel
theorem d_M_black_37 : decode b_M_black 37 = .ok (.aload_n 0, 1) := by decide +kernel
theorem d_M_black_38 : decode b_M_black 38 = .ok (.getfield 65, 3) := by decide +kernel
theorem d_M_black_41 : decode b_M_black 41 = .ok (.iload_n 2, 1) := by decide +kernel
theorem d_M_black_42 : decode b_M_black 42 = .ok (.imul, 1) := by decide +kernel
theorem d_M_black_43 : decode b_M_black 43 = .ok (.iload_n 1, 1) := by decide +kernel
theorem d_M_black_44 : decode b_M_black 44 = .ok (.iadd, 1) := by decide +kernel
theorem d_M_black_45 : decode b_M_black 45 = .ok (.iload_n 3, 1) := by decide +kernel
theorem d_M_black_46 : decode b_M_black 46 = .ok (.bastore, 1) := by decide +kernel
theorem d_M_black_47 : decode b_M_black 47 = .ok (.iconst 0, 1) := by decide +kernel
theorem d_M_black_48 : decode b_M_black 48 = .ok (.istore 4, 2) := by decide +kernel
theorem d_M_black_50 : decode b_M_black 50 = .ok (.iload 4, 2) := by decide +kernel
theorem d_M_black_52 : decode b_M_black 52 = .ok (.bipush 36, 2) := by decide +kernel
theorem d_M_black_54 : decode b_M_black 54 = .ok (.if_icmp .ge 17, 3) := by decide +kernel
theorem d_M_black_57 : decode b_M_black 57 = .ok (.aload_n 0, 1) := by decide +kernel
theorem d_M_black_58 : decode b_M_black 58 = .ok (.getfield 13, 3) := by decide +kernel
theorem d_M_black_61 : decode b_M_black 61 = .ok (.iload 4, 2) := by decide +kernel
theorem d_M_black_63 : decode b_M_black 63 = .ok (.iconst 0, 1) := by decide +kernel
theorem d_M_black_64 : decode b_M_black 64 = .ok (.iastore, 1) := by decide +kernel
theorem d_M_black_65 : decode b_M_black 65 = .ok (.iinc 4 1, 3) := by decide +kernel
theorem d_M_black_68 : decode b_M_black 68 = .ok (.goto (-18), 3) := by decide +kernel
theorem d_M_black_71 : decode b_M_black 71 = .ok (.aload_n 0, 1) := by decide +kernel
theorem d_M_black_72 : decode b_M_black 72 = .ok (.iconst 0, 1) := by decide +kernel
theorem d_M_black_73 : decode b_M_black 73 = .ok (.putfield 91, 3) := by decide +kernel
theorem d_M_black_76 : decode b_M_black 76 = .ok (.aload_n 0, 1) := by decide +kernel
theorem d_M_black_77 : decode b_M_black 77 = .ok (.invokevirtual 72, 3) := by decide +kernel
theorem d_M_black_80 : decode b_M_black 80 = .ok (.iconst 1, 1) := by decide +kernel
theorem d_M_black_81 : decode b_M_black 81 = .ok (.ireturn, 1) := by decide +kernel
theorem d_M_isSlot_0 : decode b_M_isSlot 0 = .ok (.iload_n 1, 1) := by decide +kernel
theorem d_M_isSlot_1 : decode b_M_isSlot 1 = .ok (.ifCond .lt 15, 3) := by decide +kernel
theorem d_M_isSlot_4 : decode b_M_isSlot 4 = .ok (.iload_n 1, 1) := by decide +kernel
theorem d_M_isSlot_5 : decode b_M_isSlot 5 = .ok (.aload_n 0, 1) := by decide +kernel
theorem d_M_isSlot_6 : decode b_M_isSlot 6 = .ok (.getfield 82, 3) := by decide +kernel
theorem d_M_isSlot_9 : decode b_M_isSlot 9 = .ok (.if_icmp .ge 7, 3) := by decide +kernel
theorem d_M_isSlot_12 : decode b_M_isSlot 12 = .ok (.iconst 1, 1) := by decide +kernel
theorem d_M_isSlot_13 : decode b_M_isSlot 13 = .ok (.goto 4, 3) := by decide +kernel
theorem d_M_isSlot_16 : decode b_M_isSlot 16 = .ok (.iconst 0, 1) := by decide +kernel
theorem d_M_isSlot_17 : decode b_M_isSlot 17 = .ok (.ireturn, 1) := by decide +kernel
theorem d_M_cellOf_0 : decode b_M_cellOf 0 = .ok (.aload_n 0, 1) := by decide +kernel
theorem d_M_cellOf_1 : decode b_M_cellOf 1 = .ok (.getfield 29, 3) := by decide +kernel
theorem d_M_cellOf_4 : decode b_M_cellOf 4 = .ok (.iload_n 1, 1) := by decide +kernel
theorem d_M_cellOf_5 : decode b_M_cellOf 5 = .ok (.iaload, 1) := by decide +kernel
theorem d_M_cellOf_6 : decode b_M_cellOf 6 = .ok (.iload_n 2, 1) := by decide +kernel
theorem d_M_cellOf_7 : decode b_M_cellOf 7 = .ok (.aload_n 0, 1) := by decide +kernel
theorem d_M_cellOf_8 : decode b_M_cellOf 8 = .ok (.getfield 35, 3) := by decide +kernel
theorem d_M_cellOf_11 : decode b_M_cellOf 11 = .ok (.iload_n 1, 1) := by decide +kernel
theorem d_M_cellOf_12 : decode b_M_cellOf 12 = .ok (.iaload, 1) := by decide +kernel
theorem d_M_cellOf_13 : decode b_M_cellOf 13 = .ok (.imul, 1) := by decide +kernel
theorem d_M_cellOf_14 : decode b_M_cellOf 14 = .ok (.iadd, 1) := by decide +kernel
theorem d_M_cellOf_15 : decode b_M_cellOf 15 = .ok (.ireturn, 1) := by decide +kernel
theorem d_M_isLetter_0 : decode b_M_isLetter 0 = .ok (.iload_n 0, 1) := by decide +kernel
theorem d_M_isLetter_1 : decode b_M_isLetter 1 = .ok (.bipush 97, 2) := by decide +kernel
theorem d_M_isLetter_3 : decode b_M_isLetter 3 = .ok (.if_icmp .lt 13, 3) := by decide +kernel
theorem d_M_isLetter_6 : decode b_M_isLetter 6 = .ok (.iload_n 0, 1) := by decide +kernel
theorem d_M_isLetter_7 : decode b_M_isLetter 7 = .ok (.bipush 122, 2) := by decide +kernel
theorem d_M_isLetter_9 : decode b_M_isLetter 9 = .ok (.if_icmp .gt 7, 3) := by decide +kernel
theorem d_M_isLetter_12 : decode b_M_isLetter 12 = .ok (.iconst 1, 1) := by decide +kernel
theorem d_M_isLetter_13 : decode b_M_isLetter 13 = .ok (.goto 4, 3) := by decide +kernel
theorem d_M_isLetter_16 : decode b_M_isLetter 16 = .ok (.iconst 0, 1) := by decide +kernel
theorem d_M_isLetter_17 : decode b_M_isLetter 17 = .ok (.ireturn, 1) := by decide +kernel
theorem d_M_unit_0 : decode b_M_unit 0 = .ok (.aload_n 0, 1) := by decide +kernel
theorem d_M_unit_1 : decode b_M_unit 1 = .ok (.iconst 0, 1) := by decide +kernel
theorem d_M_unit_2 : decode b_M_unit 2 = .ok (.putfield 75, 3) := by decide +kernel
theorem d_M_unit_5 : decode b_M_unit 5 = .ok (.iload_n 1, 1) := by decide +kernel
theorem d_M_unit_6 : decode b_M_unit 6 = .ok (.invokestatic 95, 3) := by decide +kernel
theorem d_M_unit_9 : decode b_M_unit 9 = .ok (.ifCond .eq 12, 3) := by decide +kernel
theorem d_M_unit_12 : decode b_M_unit 12 = .ok (.aload_n 0, 1) := by decide +kernel
theorem d_M_unit_13 : decode b_M_unit 13 = .ok (.getfield 99, 3) := by decide +kernel
theorem d_M_unit_16 : decode b_M_unit 16 = .ok (.bipush 6, 2) := by decide +kernel
theorem d_M_unit_18 : decode b_M_unit 18 = .ok (.if_icmp .ne 5, 3) := by decide +kernel
theorem d_M_unit_21 : decode b_M_unit 21 = .ok (.iconst 0, 1) := by decide +kernel
theorem d_M_unit_22 : decode b_M_unit 22 = .ok (.ireturn, 1) := by decide +kernel
theorem d_M_unit_23 : decode b_M_unit 23 = .ok (.aload_n 0, 1) := by decide +kernel
theorem d_M_unit_24 : decode b_M_unit 24 = .ok (.getfield 17, 3) := by decide +kernel
theorem d_M_unit_27 : decode b_M_unit 27 = .ok (.aload_n 0, 1) := by decide +kernel
theorem d_M_unit_28 : decode b_M_unit 28 = .ok (.getfield 99, 3) := by decide +kernel
theorem d_M_unit_31 : decode b_M_unit 31 = .ok (.iload_n 1, 1) := by decide +kernel
theorem d_M_unit_32 : decode b_M_unit 32 = .ok (.iastore, 1) := by decide +kernel
theorem d_M_unit_33 : decode b_M_unit 33 = .ok (.aload_n 0, 1) := by decide +kernel
theorem d_M_unit_34 : decode b_M_unit 34 = .ok (.dup, 1) := by decide +kernel
theorem d_M_unit_35 : decode b_M_unit 35 = .ok (.getfield 99, 3) := by decide +kernel
theorem d_M_unit_38 : decode b_M_unit 38 = .ok (.iconst 1, 1) := by decide +kernel
theorem d_M_unit_39 : decode b_M_unit 39 = .ok (.iadd, 1) := by decide +kernel
theorem d_M_unit_40 : decode b_M_unit 40 = .ok (.putfield 99, 3) := by decide +kernel
theorem d_M_unit_43 : decode b_M_unit 43 = .ok (.iconst 1, 1) := by decide +kernel
theorem d_M_unit_44 : decode b_M_unit 44 = .ok (.ireturn, 1) := by decide +kernel
theorem d_M_isRow_0 : decode b_M_isRow 0 = .ok (.aload_n 0, 1) := by decide +kernel
theorem d_M_isRow_1 : decode b_M_isRow 1 = .ok (.getfield 20, 3) := by decide +kernel
theorem d_M_isRow_4 : decode b_M_isRow 4 = .ok (.iload_n 1, 1) := by decide +kernel
theorem d_M_isRow_5 : decode b_M_isRow 5 = .ok (.iaload, 1) := by decide +kernel
theorem d_M_isRow_6 : decode b_M_isRow 6 = .ok (.aload_n 0, 1) := by decide +kernel
theorem d_M_isRow_7 : decode b_M_isRow 7 = .ok (.getfield 99, 3) := by decide +kernel
theorem d_M_isRow_10 : decode b_M_isRow 10 = .ok (.if_icmp .eq 5, 3) := by decide +kernel
theorem d_M_isRow_13 : decode b_M_isRow 13 = .ok (.iconst 0, 1) := by decide +kernel
theorem d_M_isRow_14 : decode b_M_isRow 14 = .ok (.ireturn, 1) := by decide +kernel
theorem d_M_isRow_15 : decode b_M_isRow 15 = .ok (.iconst 0, 1) := by decide +kernel
theorem d_M_isRow_16 : decode b_M_isRow 16 = .ok (.istore_n 2, 1) := by decide +kernel
theorem d_M_isRow_17 : decode b_M_isRow 17 = .ok (.iload_n 2, 1) := by decide +kernel
theorem d_M_isRow_18 : decode b_M_isRow 18 = .ok (.aload_n 0, 1) := by decide +kernel
theorem d_M_isRow_19 : decode b_M_isRow 19 = .ok (.getfield 99, 3) := by decide +kernel
theorem d_M_isRow_22 : decode b_M_isRow 22 = .ok (.if_icmp .ge 31, 3) := by decide +kernel
theorem d_M_isRow_25 : decode b_M_isRow 25 = .ok (.aload_n 0, 1) := by decide +kernel
theorem d_M_isRow_26 : decode b_M_isRow 26 = .ok (.getfield 23, 3) := by decide +kernel
theorem d_M_isRow_29 : decode b_M_isRow 29 = .ok (.bipush 6, 2) := by decide +kernel
theorem d_M_isRow_31 : decode b_M_isRow 31 = .ok (.iload_n 1, 1) := by decide +kernel
theorem d_M_isRow_32 : decode b_M_isRow 32 = .ok (.imul, 1) := by decide +kernel
theorem d_M_isRow_33 : decode b_M_isRow 33 = .ok (.iload_n 2, 1) := by decide +kernel
theorem d_M_isRow_34 : decode b_M_isRow 34 = .ok (.iadd, 1) := by decide +kernel
theorem d_M_isRow_35 : decode b_M_isRow 35 = .ok (.iaload, 1) := by decide +kernel
theorem d_M_isRow_36 : decode b_M_isRow 36 = .ok (.aload_n 0, 1) := by decide +kernel
theorem d_M_isRow_37 : decode b_M_isRow 37 = .ok (.getfield 17, 3) := by decide +kernel
theorem d_M_isRow_40 : decode b_M_isRow 40 = .ok (.iload_n 2, 1) := by decide +kernel
theorem d_M_isRow_41 : decode b_M_isRow 41 = .ok (.iaload, 1) := by decide +kernel
theorem d_M_isRow_42 : decode b_M_isRow 42 = .ok (.if_icmp .eq 5, 3) := by decide +kernel
theorem d_M_isRow_45 : decode b_M_isRow 45 = .ok (.iconst 0, 1) := by decide +kernel
theorem d_M_isRow_46 : decode b_M_isRow 46 = .ok (.ireturn, 1) := by decide +kernel
theorem d_M_isRow_47 : decode b_M_isRow 47 = .ok (.iinc 2 1, 3) := by decide +kernel
theorem d_M_isRow_50 : decode b_M_isRow 50 = .ok (.goto (-33), 3) := by decide +kernel
theorem d_M_isRow_53 : decode b_M_isRow 53 = .ok (.iconst 1, 1) := by decide +kernel
theorem d_M_isRow_54 : decode b_M_isRow 54 = .ok (.ireturn, 1) := by decide +kernel
theorem d_M_enter_0 : decode b_M_enter 0 = .ok (.aload_n 0, 1) := by decide +kernel
theorem d_M_enter_1 : decode b_M_enter 1 = .ok (.getfield 99, 3) := by decide +kernel
theorem d_M_enter_4 : decode b_M_enter 4 = .ok (.iconst 2, 1) := by decide +kernel
theorem d_M_enter_5 : decode b_M_enter 5 = .ok (.if_icmp .lt 23, 3) := by decide +kernel
theorem d_M_enter_8 : decode b_M_enter 8 = .ok (.iload_n 1, 1) := by decide +kernel
theorem d_M_enter_9 : decode b_M_enter 9 = .ok (.ifCond .lt 19, 3) := by decide +kernel
theorem d_M_enter_12 : decode b_M_enter 12 = .ok (.iload_n 1, 1) := by decide +kernel
theorem d_M_enter_13 : decode b_M_enter 13 = .ok (.sipush 1000, 3) := by decide +kernel
theorem d_M_enter_16 : decode b_M_enter 16 = .ok (.if_icmp .gt 12, 3) := by decide +kernel
theorem d_M_enter_19 : decode b_M_enter 19 = .ok (.aload_n 0, 1) := by decide +kernel
theorem d_M_enter_20 : decode b_M_enter 20 = .ok (.getfield 102, 3) := by decide +kernel
theorem d_M_enter_23 : decode b_M_enter 23 = .ok (.bipush 80, 2) := by decide +kernel
theorem d_M_enter_25 : decode b_M_enter 25 = .ok (.if_icmp .ne 5, 3) := by decide +kernel
theorem d_M_enter_28 : decode b_M_enter 28 = .ok (.iconst (-1), 1) := by decide +kernel
theorem d_M_enter_29 : decode b_M_enter 29 = .ok (.ireturn, 1) := by decide +kernel
theorem d_M_enter_30 : decode b_M_enter 30 = .ok (.iconst 0, 1) := by decide +kernel
theorem d_M_enter_31 : decode b_M_enter 31 = .ok (.istore_n 2, 1) := by decide +kernel
theorem d_M_enter_32 : decode b_M_enter 32 = .ok (.iload_n 2, 1) := by decide +kernel
theorem d_M_enter_33 : decode b_M_enter 33 = .ok (.aload_n 0, 1) := by decide +kernel
theorem d_M_enter_34 : decode b_M_enter 34 = .ok (.getfield 102, 3) := by decide +kernel
theorem d_M_enter_37 : decode b_M_enter 37 = .ok (.if_icmp .ge 19, 3) := by decide +kernel
theorem d_M_enter_40 : decode b_M_enter 40 = .ok (.aload_n 0, 1) := by decide +kernel
theorem d_M_enter_41 : decode b_M_enter 41 = .ok (.iload_n 2, 1) := by decide +kernel
theorem d_M_enter_42 : decode b_M_enter 42 = .ok (.invokevirtual 105, 3) := by decide +kernel
theorem d_M_enter_45 : decode b_M_enter 45 = .ok (.ifCond .eq 5, 3) := by decide +kernel
theorem d_M_enter_48 : decode b_M_enter 48 = .ok (.iconst (-1), 1) := by decide +kernel
theorem d_M_enter_49 : decode b_M_enter 49 = .ok (.ireturn, 1) := by decide +kernel
theorem d_M_enter_50 : decode b_M_enter 50 = .ok (.iinc 2 1, 3) := by decide +kernel
theorem d_M_enter_53 : decode b_M_enter 53 = .ok (.goto (-21), 3) := by decide +kernel
theorem d_M_enter_56 : decode b_M_enter 56 = .ok (.iconst 0, 1) := by decide +kernel
theorem d_M_enter_57 : decode b_M_enter 57 = .ok (.istore_n 2, 1) := by decide +kernel
theorem d_M_enter_58 : decode b_M_enter 58 = .ok (.iload_n 2, 1) := by decide +kernel
theorem d_M_enter_59 : decode b_M_enter 59 = .ok (.aload_n 0, 1) := by decide +kernel
theorem d_M_enter_60 : decode b_M_enter 60 = .ok (.getfield 99, 3) := by decide +kernel
theorem d_M_enter_63 : decode b_M_enter 63 = .ok (.if_icmp .ge 29, 3) := by decide +kernel
theorem d_M_enter_66 : decode b_M_enter 66 = .ok (.aload_n 0, 1) := by decide +kernel
theorem d_M_enter_67 : decode b_M_enter 67 = .ok (.getfield 23, 3) := by decide +kernel
theorem d_M_enter_70 : decode b_M_enter 70 = .ok (.bipush 6, 2) := by decide +kernel
theorem d_M_enter_72 : decode b_M_enter 72 = .ok (.aload_n 0, 1) := by decide +kernel
theorem d_M_enter_73 : decode b_M_enter 73 = .ok (.getfield 102, 3) := by decide +kernel
theorem d_M_enter_76 : decode b_M_enter 76 = .ok (.imul, 1) := by decide +kernel
theorem d_M_enter_77 : decode b_M_enter 77 = .ok (.iload_n 2, 1) := by decide +kernel
theorem d_M_enter_78 : decode b_M_enter 78 = .ok (.iadd, 1) := by decide +kernel
theorem d_M_enter_79 : decode b_M_enter 79 = .ok (.aload_n 0, 1) := by decide +kernel
theorem d_M_enter_80 : decode b_M_enter 80 = .ok (.getfield 17, 3) := by decide +kernel
theorem d_M_enter_83 : decode b_M_enter 83 = .ok (.iload_n 2, 1) := by decide +kernel
theorem d_M_enter_84 : decode b_M_enter 84 = .ok (.iaload, 1) := by decide +kernel
theorem d_M_enter_85 : decode b_M_enter 85 = .ok (.iastore, 1) := by decide +kernel
theorem d_M_enter_86 : decode b_M_enter 86 = .ok (.iinc 2 1, 3) := by decide +kernel
theorem d_M_enter_89 : decode b_M_enter 89 = .ok (.goto (-31), 3) := by decide +kernel
theorem d_M_enter_92 : decode b_M_enter 92 = .ok (.aload_n 0, 1) := by decide +kernel
theorem d_M_enter_93 : decode b_M_enter 93 = .ok (.getfield 20, 3) := by decide +kernel
theorem d_M_enter_96 : decode b_M_enter 96 = .ok (.aload_n 0, 1) := by decide +kernel
theorem d_M_enter_97 : decode b_M_enter 97 = .ok (.getfield 102, 3) := by decide +kernel
theorem d_M_enter_100 : decode b_M_enter 100 = .ok (.aload_n 0, 1) := by decide +kernel
theorem d_M_enter_101 : decode b_M_enter 101 = .ok (.getfield 99, 3) := by decide +kernel
theorem d_M_enter_104 : decode b_M_enter 104 = .ok (.iastore, 1) := by decide +kernel
theorem d_M_enter_105 : decode b_M_enter 105 = .ok (.aload_n 0, 1) := by decide +kernel
theorem d_M_enter_106 : decode b_M_enter 106 = .ok (.getfield 26, 3) := by decide +kernel
theorem d_M_enter_109 : decode b_M_enter 109 = .ok (.aload_n 0, 1) := by decide +kernel
theorem d_M_enter_110 : decode b_M_enter 110 = .ok (.getfield 102, 3) := by decide +kernel
theorem d_M_enter_113 : decode b_M_enter 113 = .ok (.iload_n 1, 1) := by decide +kernel
theorem d_M_enter_114 : decode b_M_enter 114 = .ok (.iastore, 1) := by decide +kernel
theorem d_M_enter_115 : decode b_M_enter 115 = .ok (.aload_n 0, 1) := by decide +kernel
theorem d_M_enter_116 : decode b_M_enter 116 = .ok (.dup, 1) := by decide +kernel
theorem d_M_enter_117 : decode b_M_enter 117 = .ok (.getfield 102, 3) := by decide +kernel
theorem d_M_enter_120 : decode b_M_enter 120 = .ok (.iconst 1, 1) := by decide +kernel
theorem d_M_enter_121 : decode b_M_enter 121 = .ok (.iadd, 1) := by decide +kernel
theorem d_M_enter_122 : decode b_M_enter 122 = .ok (.putfield 102, 3) := by decide +kernel
theorem d_M_enter_125 : decode b_M_enter 125 = .ok (.aload_n 0, 1) := by decide +kernel
theorem d_M_enter_126 : decode b_M_enter 126 = .ok (.getfield 102, 3) := by decide +kernel
theorem d_M_enter_129 : decode b_M_enter 129 = .ok (.iconst 1, 1) := by decide +kernel
theorem d_M_enter_130 : decode b_M_enter 130 = .ok (.isub, 1) := by decide +kernel
theorem d_M_enter_131 : decode b_M_enter 131 = .ok (.ireturn, 1) := by decide +kernel
theorem d_M_word_0 : decode b_M_word 0 = .ok (.aload_n 0, 1) := by decide +kernel
theorem d_M_word_1 : decode b_M_word 1 = .ok (.iconst 0, 1) := by decide +kernel
theorem d_M_word_2 : decode b_M_word 2 = .ok (.putfield 75, 3) := by decide +kernel
theorem d_M_word_5 : decode b_M_word 5 = .ok (.aload_n 0, 1) := by decide +kernel
theorem d_M_word_6 : decode b_M_word 6 = .ok (.iload_n 1, 1) := by decide +kernel
theorem d_M_word_7 : decode b_M_word 7 = .ok (.invokevirtual 108, 3) := by decide +kernel
theorem d_M_word_10 : decode b_M_word 10 = .ok (.istore_n 2, 1) := by decide +kernel
theorem d_M_word_11 : decode b_M_word 11 = .ok (.aload_n 0, 1) := by decide +kernel
theorem d_M_word_12 : decode b_M_word 12 = .ok (.iconst 0, 1) := by decide +kernel
theorem d_M_word_13 : decode b_M_word 13 = .ok (.putfield 99, 3) := by decide +kernel
theorem d_M_word_16 : decode b_M_word 16 = .ok (.iload_n 2, 1) := by decide +kernel
theorem d_M_word_17 : decode b_M_word 17 = .ok (.ireturn, 1) := by decide +kernel
theorem d_M_given_0 : decode b_M_given 0 = .ok (.aload_n 0, 1) := by decide +kernel
theorem d_M_given_1 : decode b_M_given 1 = .ok (.iconst 0, 1) := by decide +kernel
theorem d_M_given_2 : decode b_M_given 2 = .ok (.putfield 75, 3) := by decide +kernel
theorem d_M_given_5 : decode b_M_given 5 = .ok (.aload_n 0, 1) := by decide +kernel
theorem d_M_given_6 : decode b_M_given 6 = .ok (.iload_n 1, 1) := by decide +kernel
theorem d_M_given_7 : decode b_M_given 7 = .ok (.iload_n 2, 1) := by decide +kernel
theorem d_M_given_8 : decode b_M_given 8 = .ok (.invokevirtual 88, 3) := by decide +kernel
theorem d_M_given_11 : decode b_M_given 11 = .ok (.ifCond .eq 14, 3) := by decide +kernel
theorem d_M_given_14 : decode b_M_given 14 = .ok (.iload_n 3, 1) := by decide +kernel
theorem d_M_given_15 : decode b_M_given 15 = .ok (.ifCond .eq 12, 3) := by decide +kernel
theorem d_M_given_18 : decode b_M_given 18 = .ok (.iload_n 3, 1) := by decide +kernel
theorem d_M_given_19 : decode b_M_given 19 = .ok (.invokestatic 95, 3) := by decide +kernel
theorem d_M_given_22 : decode b_M_given 22 = .ok (.ifCond .ne 5, 3) := by decide +kernel
theorem d_M_given_25 : decode b_M_given 25 = .ok (.iconst 0, 1) := by decide +kernel
theorem d_M_given_26 : decode b_M_given 26 = .ok (.ireturn, 1) := by decide +kernel
theorem d_M_given_27 : decode b_M_given 27 = .ok (.aload_n 0, 1) := by decide +kernel
theorem d_M_given_28 : decode b_M_given 28 = .ok (.getfield 13, 3) := by decide +kernel
theorem d_M_given_31 : decode b_M_given 31 = .ok (.aload_n 0, 1) := by decide +kernel
theorem d_M_given_32 : decode b_M_given 32 = .ok (.getfield 65, 3) := by decide +kernel
theorem d_M_given_35 : decode b_M_given 35 = .ok (.iload_n 2, 1) := by decide +kernel
theorem d_M_given_36 : decode b_M_given 36 = .ok (.imul, 1) := by decide +kernel
theorem d_M_given_37 : decode b_M_given 37 = .ok (.iload_n 1, 1) := by decide +kernel
theorem d_M_given_38 : decode b_M_given 38 = .ok (.iadd, 1) := by decide +kernel
theorem d_M_given_39 : decode b_M_given 39 = .ok (.iload_n 3, 1) := by decide +kernel
theorem d_M_given_40 : decode b_M_given 40 = .ok (.iastore, 1) := by decide +kernel
theorem d_M_given_41 : decode b_M_given 41 = .ok (.iconst 1, 1) := by decide +kernel
theorem d_M_given_42 : decode b_M_given 42 = .ok (.ireturn, 1) := by decide +kernel
theorem d_M_theme_0 : decode b_M_theme 0 = .ok (.aload_n 0, 1) := by decide +kernel
theorem d_M_theme_1 : decode b_M_theme 1 = .ok (.iconst 0, 1) := by decide +kernel
theorem d_M_theme_2 : decode b_M_theme 2 = .ok (.putfield 75, 3) := by decide +kernel
theorem d_M_theme_5 : decode b_M_theme 5 = .ok (.aload_n 0, 1) := by decide +kernel
theorem d_M_theme_6 : decode b_M_theme 6 = .ok (.iload_n 1, 1) := by decide +kernel
theorem d_M_theme_7 : decode b_M_theme 7 = .ok (.invokevirtual 112, 3) := by decide +kernel
theorem d_M_theme_10 : decode b_M_theme 10 = .ok (.ifCond .eq 35, 3) := by decide +kernel
theorem d_M_theme_13 : decode b_M_theme 13 = .ok (.iload_n 2, 1) := by decide +kernel
theorem d_M_theme_14 : decode b_M_theme 14 = .ok (.iconst (-1), 1) := by decide +kernel
theorem d_M_theme_15 : decode b_M_theme 15 = .ok (.if_icmp .eq 32, 3) := by decide +kernel
theorem d_M_theme_18 : decode b_M_theme 18 = .ok (.iload_n 2, 1) := by decide +kernel
theorem d_M_theme_19 : decode b_M_theme 19 = .ok (.ifCond .lt 26, 3) := by decide +kernel
theorem d_M_theme_22 : decode b_M_theme 22 = .ok (.iload_n 2, 1) := by decide +kernel
theorem d_M_theme_23 : decode b_M_theme 23 = .ok (.aload_n 0, 1) := by decide +kernel
theorem d_M_theme_24 : decode b_M_theme 24 = .ok (.getfield 102, 3) := by decide +kernel
theorem d_M_theme_27 : decode b_M_theme 27 = .ok (.if_icmp .ge 18, 3) := by decide +kernel
theorem d_M_theme_30 : decode b_M_theme 30 = .ok (.aload_n 0, 1) := by decide +kernel
theorem d_M_theme_31 : decode b_M_theme 31 = .ok (.getfield 20, 3) := by decide +kernel
theorem d_M_theme_34 : decode b_M_theme 34 = .ok (.iload_n 2, 1) := by decide +kernel
theorem d_M_theme_35 : decode b_M_theme 35 = .ok (.iaload, 1) := by decide +kernel
theorem d_M_theme_36 : decode b_M_theme 36 = .ok (.aload_n 0, 1) := by decide +kernel
theorem d_M_theme_37 : decode b_M_theme 37 = .ok (.getfield 32, 3) := by decide +kernel
theorem d_M_theme_40 : decode b_M_theme 40 = .ok (.iload_n 1, 1) := by decide +kernel
theorem d_M_theme_41 : decode b_M_theme 41 = .ok (.iaload, 1) := by decide +kernel
theorem d_M_theme_42 : decode b_M_theme 42 = .ok (.if_icmp .eq 5, 3) := by decide +kernel
theorem d_M_theme_45 : decode b_M_theme 45 = .ok (.iconst 0, 1) := by decide +kernel
theorem d_M_theme_46 : decode b_M_theme 46 = .ok (.ireturn, 1) := by decide +kernel
theorem d_M_theme_47 : decode b_M_theme 47 = .ok (.aload_n 0, 1) := by decide +kernel
theorem d_M_theme_48 : decode b_M_theme 48 = .ok (.getfield 38, 3) := by decide +kernel
theorem d_M_theme_51 : decode b_M_theme 51 = .ok (.iload_n 1, 1) := by decide +kernel
theorem d_M_theme_52 : decode b_M_theme 52 = .ok (.iload_n 2, 1) := by decide +kernel
theorem d_M_theme_53 : decode b_M_theme 53 = .ok (.iastore, 1) := by decide +kernel
theorem d_M_theme_54 : decode b_M_theme 54 = .ok (.iconst 1, 1) := by decide +kernel
theorem d_M_theme_55 : decode b_M_theme 55 = .ok (.ireturn, 1) := by decide +kernel
theorem d_M_slots_0 : decode b_M_slots 0 = .ok (.aload_n 0, 1) := by decide +kernel
theorem d_M_slots_1 : decode b_M_slots 1 = .ok (.iconst 0, 1) := by decide +kernel
theorem d_M_slots_2 : decode b_M_slots 2 = .ok (.putfield 75, 3) := by decide +kernel
theorem d_M_slots_5 : decode b_M_slots 5 = .ok (.aload_n 0, 1) := by decide +kernel
end
section
theorem d_M_slots_6 : decode b_M_slots 6 = .ok (.getfield 82, 3) := by decide +kernel
theorem d_M_slots_9 : decode b_M_slots 9 = .ok (.ireturn, 1) := by decide +kernel
theorem d_M_spell_0 : decode b_M_spell 0 = .ok (.iconst 0, 1) := by decide +kernel
theorem d_M_spell_1 : decode b_M_spell 1 = .ok (.istore_n 1, 1) := by decide +kernel
theorem d_M_spell_2 : decode b_M_spell 2 = .ok (.iload_n 1, 1) := by decide +kernel
theorem d_M_spell_3 : decode b_M_spell 3 = .ok (.bipush 36, 2) := by decide +kernel
theorem d_M_spell_5 : decode b_M_spell 5 = .ok (.if_icmp .ge 21, 3) := by decide +kernel
theorem d_M_spell_8 : decode b_M_spell 8 = .ok (.aload_n 0, 1) := by decide +kernel
theorem d_M_spell_9 : decode b_M_spell 9 = .ok (.getfield 47, 3) := by decide +kernel
theorem d_M_spell_12 : decode b_M_spell 12 = .ok (.iload_n 1, 1) := by decide +kernel
theorem d_M_spell_13 : decode b_M_spell 13 = .ok (.aload_n 0, 1) := by decide +kernel
theorem d_M_spell_14 : decode b_M_spell 14 = .ok (.getfield 13, 3) := by decide +kernel
theorem d_M_spell_17 : decode b_M_spell 17 = .ok (.iload_n 1, 1) := by decide +kernel
theorem d_M_spell_18 : decode b_M_spell 18 = .ok (.iaload, 1) := by decide +kernel
theorem d_M_spell_19 : decode b_M_spell 19 = .ok (.iastore, 1) := by decide +kernel
theorem d_M_spell_20 : decode b_M_spell 20 = .ok (.iinc 1 1, 3) := by decide +kernel
theorem d_M_spell_23 : decode b_M_spell 23 = .ok (.goto (-21), 3) := by decide +kernel
theorem d_M_spell_26 : decode b_M_spell 26 = .ok (.iconst 0, 1) := by decide +kernel
theorem d_M_spell_27 : decode b_M_spell 27 = .ok (.istore_n 1, 1) := by decide +kernel
theorem d_M_spell_28 : decode b_M_spell 28 = .ok (.iload_n 1, 1) := by decide +kernel
theorem d_M_spell_29 : decode b_M_spell 29 = .ok (.aload_n 0, 1) := by decide +kernel
theorem d_M_spell_30 : decode b_M_spell 30 = .ok (.getfield 82, 3) := by decide +kernel
theorem d_M_spell_33 : decode b_M_spell 33 = .ok (.if_icmp .ge 67, 3) := by decide +kernel
theorem d_M_spell_36 : decode b_M_spell 36 = .ok (.aload_n 0, 1) := by decide +kernel
theorem d_M_spell_37 : decode b_M_spell 37 = .ok (.getfield 41, 3) := by decide +kernel
theorem d_M_spell_40 : decode b_M_spell 40 = .ok (.iload_n 1, 1) := by decide +kernel
theorem d_M_spell_41 : decode b_M_spell 41 = .ok (.iaload, 1) := by decide +kernel
theorem d_M_spell_42 : decode b_M_spell 42 = .ok (.iconst (-1), 1) := by decide +kernel
theorem d_M_spell_43 : decode b_M_spell 43 = .ok (.if_icmp .ne 6, 3) := by decide +kernel
theorem d_M_spell_46 : decode b_M_spell 46 = .ok (.goto 48, 3) := by decide +kernel
theorem d_M_spell_49 : decode b_M_spell 49 = .ok (.iconst 0, 1) := by decide +kernel
theorem d_M_spell_50 : decode b_M_spell 50 = .ok (.istore_n 2, 1) := by decide +kernel
theorem d_M_spell_51 : decode b_M_spell 51 = .ok (.iload_n 2, 1) := by decide +kernel
theorem d_M_spell_52 : decode b_M_spell 52 = .ok (.aload_n 0, 1) := by decide +kernel
theorem d_M_spell_53 : decode b_M_spell 53 = .ok (.getfield 32, 3) := by decide +kernel
theorem d_M_spell_56 : decode b_M_spell 56 = .ok (.iload_n 1, 1) := by decide +kernel
theorem d_M_spell_57 : decode b_M_spell 57 = .ok (.iaload, 1) := by decide +kernel
theorem d_M_spell_58 : decode b_M_spell 58 = .ok (.if_icmp .ge 36, 3) := by decide +kernel
theorem d_M_spell_61 : decode b_M_spell 61 = .ok (.aload_n 0, 1) := by decide +kernel
theorem d_M_spell_62 : decode b_M_spell 62 = .ok (.getfield 47, 3) := by decide +kernel
theorem d_M_spell_65 : decode b_M_spell 65 = .ok (.aload_n 0, 1) := by decide +kernel
theorem d_M_spell_66 : decode b_M_spell 66 = .ok (.iload_n 1, 1) := by decide +kernel
theorem d_M_spell_67 : decode b_M_spell 67 = .ok (.iload_n 2, 1) := by decide +kernel
theorem d_M_spell_68 : decode b_M_spell 68 = .ok (.invokevirtual 115, 3) := by decide +kernel
theorem d_M_spell_71 : decode b_M_spell 71 = .ok (.aload_n 0, 1) := by decide +kernel
theorem d_M_spell_72 : decode b_M_spell 72 = .ok (.getfield 23, 3) := by decide +kernel
theorem d_M_spell_75 : decode b_M_spell 75 = .ok (.bipush 6, 2) := by decide +kernel
theorem d_M_spell_77 : decode b_M_spell 77 = .ok (.aload_n 0, 1) := by decide +kernel
theorem d_M_spell_78 : decode b_M_spell 78 = .ok (.getfield 41, 3) := by decide +kernel
theorem d_M_spell_81 : decode b_M_spell 81 = .ok (.iload_n 1, 1) := by decide +kernel
theorem d_M_spell_82 : decode b_M_spell 82 = .ok (.iaload, 1) := by decide +kernel
theorem d_M_spell_83 : decode b_M_spell 83 = .ok (.imul, 1) := by decide +kernel
theorem d_M_spell_84 : decode b_M_spell 84 = .ok (.iload_n 2, 1) := by decide +kernel
theorem d_M_spell_85 : decode b_M_spell 85 = .ok (.iadd, 1) := by decide +kernel
theorem d_M_spell_86 : decode b_M_spell 86 = .ok (.iaload, 1) := by decide +kernel
theorem d_M_spell_87 : decode b_M_spell 87 = .ok (.iastore, 1) := by decide +kernel
theorem d_M_spell_88 : decode b_M_spell 88 = .ok (.iinc 2 1, 3) := by decide +kernel
theorem d_M_spell_91 : decode b_M_spell 91 = .ok (.goto (-40), 3) := by decide +kernel
theorem d_M_spell_94 : decode b_M_spell 94 = .ok (.iinc 1 1, 3) := by decide +kernel
theorem d_M_spell_97 : decode b_M_spell 97 = .ok (.goto (-69), 3) := by decide +kernel
theorem d_M_spell_100 : decode b_M_spell 100 = .ok (.return_, 1) := by decide +kernel
theorem d_M_isUsed_0 : decode b_M_isUsed 0 = .ok (.iconst 0, 1) := by decide +kernel
theorem d_M_isUsed_1 : decode b_M_isUsed 1 = .ok (.istore_n 2, 1) := by decide +kernel
theorem d_M_isUsed_2 : decode b_M_isUsed 2 = .ok (.iload_n 2, 1) := by decide +kernel
theorem d_M_isUsed_3 : decode b_M_isUsed 3 = .ok (.aload_n 0, 1) := by decide +kernel
theorem d_M_isUsed_4 : decode b_M_isUsed 4 = .ok (.getfield 82, 3) := by decide +kernel
theorem d_M_isUsed_7 : decode b_M_isUsed 7 = .ok (.if_icmp .ge 21, 3) := by decide +kernel
theorem d_M_isUsed_10 : decode b_M_isUsed 10 = .ok (.aload_n 0, 1) := by decide +kernel
theorem d_M_isUsed_11 : decode b_M_isUsed 11 = .ok (.getfield 41, 3) := by decide +kernel
theorem d_M_isUsed_14 : decode b_M_isUsed 14 = .ok (.iload_n 2, 1) := by decide +kernel
theorem d_M_isUsed_15 : decode b_M_isUsed 15 = .ok (.iaload, 1) := by decide +kernel
theorem d_M_isUsed_16 : decode b_M_isUsed 16 = .ok (.iload_n 1, 1) := by decide +kernel
theorem d_M_isUsed_17 : decode b_M_isUsed 17 = .ok (.if_icmp .ne 5, 3) := by decide +kernel
theorem d_M_isUsed_20 : decode b_M_isUsed 20 = .ok (.iconst 1, 1) := by decide +kernel
theorem d_M_isUsed_21 : decode b_M_isUsed 21 = .ok (.ireturn, 1) := by decide +kernel
theorem d_M_isUsed_22 : decode b_M_isUsed 22 = .ok (.iinc 2 1, 3) := by decide +kernel
theorem d_M_isUsed_25 : decode b_M_isUsed 25 = .ok (.goto (-23), 3) := by decide +kernel
theorem d_M_isUsed_28 : decode b_M_isUsed 28 = .ok (.iconst 0, 1) := by decide +kernel
theorem d_M_isUsed_29 : decode b_M_isUsed 29 = .ok (.ireturn, 1) := by decide +kernel
theorem d_M_mayHave_0 : decode b_M_mayHave 0 = .ok (.aload_n 0, 1) := by decide +kernel
theorem d_M_mayHave_1 : decode b_M_mayHave 1 = .ok (.getfield 20, 3) := by decide +kernel
theorem d_M_mayHave_4 : decode b_M_mayHave 4 = .ok (.iload_n 2, 1) := by decide +kernel
theorem d_M_mayHave_5 : decode b_M_mayHave 5 = .ok (.iaload, 1) := by decide +kernel
theorem d_M_mayHave_6 : decode b_M_mayHave 6 = .ok (.aload_n 0, 1) := by decide +kernel
theorem d_M_mayHave_7 : decode b_M_mayHave 7 = .ok (.getfield 32, 3) := by decide +kernel
theorem d_M_mayHave_10 : decode b_M_mayHave 10 = .ok (.iload_n 1, 1) := by decide +kernel
theorem d_M_mayHave_11 : decode b_M_mayHave 11 = .ok (.iaload, 1) := by decide +kernel
theorem d_M_mayHave_12 : decode b_M_mayHave 12 = .ok (.if_icmp .ne 31, 3) := by decide +kernel
theorem d_M_mayHave_15 : decode b_M_mayHave 15 = .ok (.aload_n 0, 1) := by decide +kernel
theorem d_M_mayHave_16 : decode b_M_mayHave 16 = .ok (.getfield 38, 3) := by decide +kernel
theorem d_M_mayHave_19 : decode b_M_mayHave 19 = .ok (.iload_n 1, 1) := by decide +kernel
theorem d_M_mayHave_20 : decode b_M_mayHave 20 = .ok (.iaload, 1) := by decide +kernel
theorem d_M_mayHave_21 : decode b_M_mayHave 21 = .ok (.iconst (-1), 1) := by decide +kernel
theorem d_M_mayHave_22 : decode b_M_mayHave 22 = .ok (.if_icmp .eq 13, 3) := by decide +kernel
theorem d_M_mayHave_25 : decode b_M_mayHave 25 = .ok (.aload_n 0, 1) := by decide +kernel
theorem d_M_mayHave_26 : decode b_M_mayHave 26 = .ok (.getfield 38, 3) := by decide +kernel
theorem d_M_mayHave_29 : decode b_M_mayHave 29 = .ok (.iload_n 1, 1) := by decide +kernel
theorem d_M_mayHave_30 : decode b_M_mayHave 30 = .ok (.iaload, 1) := by decide +kernel
theorem d_M_mayHave_31 : decode b_M_mayHave 31 = .ok (.iload_n 2, 1) := by decide +kernel
theorem d_M_mayHave_32 : decode b_M_mayHave 32 = .ok (.if_icmp .ne 11, 3) := by decide +kernel
theorem d_M_mayHave_35 : decode b_M_mayHave 35 = .ok (.aload_n 0, 1) := by decide +kernel
theorem d_M_mayHave_36 : decode b_M_mayHave 36 = .ok (.iload_n 2, 1) := by decide +kernel
theorem d_M_mayHave_37 : decode b_M_mayHave 37 = .ok (.invokevirtual 119, 3) := by decide +kernel
theorem d_M_mayHave_40 : decode b_M_mayHave 40 = .ok (.ifCond .eq 5, 3) := by decide +kernel
theorem d_M_mayHave_43 : decode b_M_mayHave 43 = .ok (.iconst 0, 1) := by decide +kernel
theorem d_M_mayHave_44 : decode b_M_mayHave 44 = .ok (.ireturn, 1) := by decide +kernel
theorem d_M_mayHave_45 : decode b_M_mayHave 45 = .ok (.iconst 0, 1) := by decide +kernel
theorem d_M_mayHave_46 : decode b_M_mayHave 46 = .ok (.istore_n 3, 1) := by decide +kernel
theorem d_M_mayHave_47 : decode b_M_mayHave 47 = .ok (.iload_n 3, 1) := by decide +kernel
theorem d_M_mayHave_48 : decode b_M_mayHave 48 = .ok (.aload_n 0, 1) := by decide +kernel
theorem d_M_mayHave_49 : decode b_M_mayHave 49 = .ok (.getfield 32, 3) := by decide +kernel
theorem d_M_mayHave_52 : decode b_M_mayHave 52 = .ok (.iload_n 1, 1) := by decide +kernel
theorem d_M_mayHave_53 : decode b_M_mayHave 53 = .ok (.iaload, 1) := by decide +kernel
theorem d_M_mayHave_54 : decode b_M_mayHave 54 = .ok (.if_icmp .ge 45, 3) := by decide +kernel
theorem d_M_mayHave_57 : decode b_M_mayHave 57 = .ok (.aload_n 0, 1) := by decide +kernel
theorem d_M_mayHave_58 : decode b_M_mayHave 58 = .ok (.getfield 47, 3) := by decide +kernel
theorem d_M_mayHave_61 : decode b_M_mayHave 61 = .ok (.aload_n 0, 1) := by decide +kernel
theorem d_M_mayHave_62 : decode b_M_mayHave 62 = .ok (.iload_n 1, 1) := by decide +kernel
theorem d_M_mayHave_63 : decode b_M_mayHave 63 = .ok (.iload_n 3, 1) := by decide +kernel
theorem d_M_mayHave_64 : decode b_M_mayHave 64 = .ok (.invokevirtual 115, 3) := by decide +kernel
theorem d_M_mayHave_67 : decode b_M_mayHave 67 = .ok (.iaload, 1) := by decide +kernel
theorem d_M_mayHave_68 : decode b_M_mayHave 68 = .ok (.istore 4, 2) := by decide +kernel
theorem d_M_mayHave_70 : decode b_M_mayHave 70 = .ok (.iload 4, 2) := by decide +kernel
theorem d_M_mayHave_72 : decode b_M_mayHave 72 = .ok (.ifCond .eq 21, 3) := by decide +kernel
theorem d_M_mayHave_75 : decode b_M_mayHave 75 = .ok (.iload 4, 2) := by decide +kernel
theorem d_M_mayHave_77 : decode b_M_mayHave 77 = .ok (.aload_n 0, 1) := by decide +kernel
theorem d_M_mayHave_78 : decode b_M_mayHave 78 = .ok (.getfield 23, 3) := by decide +kernel
theorem d_M_mayHave_81 : decode b_M_mayHave 81 = .ok (.bipush 6, 2) := by decide +kernel
theorem d_M_mayHave_83 : decode b_M_mayHave 83 = .ok (.iload_n 2, 1) := by decide +kernel
theorem d_M_mayHave_84 : decode b_M_mayHave 84 = .ok (.imul, 1) := by decide +kernel
theorem d_M_mayHave_85 : decode b_M_mayHave 85 = .ok (.iload_n 3, 1) := by decide +kernel
theorem d_M_mayHave_86 : decode b_M_mayHave 86 = .ok (.iadd, 1) := by decide +kernel
theorem d_M_mayHave_87 : decode b_M_mayHave 87 = .ok (.iaload, 1) := by decide +kernel
theorem d_M_mayHave_88 : decode b_M_mayHave 88 = .ok (.if_icmp .eq 5, 3) := by decide +kernel
theorem d_M_mayHave_91 : decode b_M_mayHave 91 = .ok (.iconst 0, 1) := by decide +kernel
theorem d_M_mayHave_92 : decode b_M_mayHave 92 = .ok (.ireturn, 1) := by decide +kernel
theorem d_M_mayHave_93 : decode b_M_mayHave 93 = .ok (.iinc 3 1, 3) := by decide +kernel
theorem d_M_mayHave_96 : decode b_M_mayHave 96 = .ok (.goto (-49), 3) := by decide +kernel
theorem d_M_mayHave_99 : decode b_M_mayHave 99 = .ok (.iconst 1, 1) := by decide +kernel
theorem d_M_mayHave_100 : decode b_M_mayHave 100 = .ok (.ireturn, 1) := by decide +kernel
theorem d_M_countFor_0 : decode b_M_countFor 0 = .ok (.iconst 0, 1) := by decide +kernel
theorem d_M_countFor_1 : decode b_M_countFor 1 = .ok (.istore_n 2, 1) := by decide +kernel
theorem d_M_countFor_2 : decode b_M_countFor 2 = .ok (.iconst 0, 1) := by decide +kernel
theorem d_M_countFor_3 : decode b_M_countFor 3 = .ok (.istore_n 3, 1) := by decide +kernel
theorem d_M_countFor_4 : decode b_M_countFor 4 = .ok (.iload_n 3, 1) := by decide +kernel
theorem d_M_countFor_5 : decode b_M_countFor 5 = .ok (.aload_n 0, 1) := by decide +kernel
theorem d_M_countFor_6 : decode b_M_countFor 6 = .ok (.getfield 102, 3) := by decide +kernel
theorem d_M_countFor_9 : decode b_M_countFor 9 = .ok (.if_icmp .ge 26, 3) := by decide +kernel
theorem d_M_countFor_12 : decode b_M_countFor 12 = .ok (.iload_n 2, 1) := by decide +kernel
theorem d_M_countFor_13 : decode b_M_countFor 13 = .ok (.aload_n 0, 1) := by decide +kernel
theorem d_M_countFor_14 : decode b_M_countFor 14 = .ok (.iload_n 1, 1) := by decide +kernel
theorem d_M_countFor_15 : decode b_M_countFor 15 = .ok (.iload_n 3, 1) := by decide +kernel
theorem d_M_countFor_16 : decode b_M_countFor 16 = .ok (.invokevirtual 122, 3) := by decide +kernel
theorem d_M_countFor_19 : decode b_M_countFor 19 = .ok (.ifCond .eq 7, 3) := by decide +kernel
theorem d_M_countFor_22 : decode b_M_countFor 22 = .ok (.iconst 1, 1) := by decide +kernel
theorem d_M_countFor_23 : decode b_M_countFor 23 = .ok (.goto 4, 3) := by decide +kernel
theorem d_M_countFor_26 : decode b_M_countFor 26 = .ok (.iconst 0, 1) := by decide +kernel
theorem d_M_countFor_27 : decode b_M_countFor 27 = .ok (.iadd, 1) := by decide +kernel
theorem d_M_countFor_28 : decode b_M_countFor 28 = .ok (.istore_n 2, 1) := by decide +kernel
theorem d_M_countFor_29 : decode b_M_countFor 29 = .ok (.iinc 3 1, 3) := by decide +kernel
theorem d_M_countFor_32 : decode b_M_countFor 32 = .ok (.goto (-28), 3) := by decide +kernel
theorem d_M_countFor_35 : decode b_M_countFor 35 = .ok (.iload_n 2, 1) := by decide +kernel
theorem d_M_countFor_36 : decode b_M_countFor 36 = .ok (.ireturn, 1) := by decide +kernel
theorem d_M_clearNow_0 : decode b_M_clearNow 0 = .ok (.iconst 0, 1) := by decide +kernel
theorem d_M_clearNow_1 : decode b_M_clearNow 1 = .ok (.istore_n 1, 1) := by decide +kernel
theorem d_M_clearNow_2 : decode b_M_clearNow 2 = .ok (.iload_n 1, 1) := by decide +kernel
theorem d_M_clearNow_3 : decode b_M_clearNow 3 = .ok (.bipush 36, 2) := by decide +kernel
theorem d_M_clearNow_5 : decode b_M_clearNow 5 = .ok (.if_icmp .ge 16, 3) := by decide +kernel
theorem d_M_clearNow_8 : decode b_M_clearNow 8 = .ok (.aload_n 0, 1) := by decide +kernel
theorem d_M_clearNow_9 : decode b_M_clearNow 9 = .ok (.getfield 41, 3) := by decide +kernel
theorem d_M_clearNow_12 : decode b_M_clearNow 12 = .ok (.iload_n 1, 1) := by decide +kernel
theorem d_M_clearNow_13 : decode b_M_clearNow 13 = .ok (.iconst (-1), 1) := by decide +kernel
theorem d_M_clearNow_14 : decode b_M_clearNow 14 = .ok (.iastore, 1) := by decide +kernel
theorem d_M_clearNow_15 : decode b_M_clearNow 15 = .ok (.iinc 1 1, 3) := by decide +kernel
theorem d_M_clearNow_18 : decode b_M_clearNow 18 = .ok (.goto (-16), 3) := by decide +kernel
theorem d_M_clearNow_21 : decode b_M_clearNow 21 = .ok (.return_, 1) := by decide +kernel
theorem d_M_slot_0 : decode b_M_slot 0 = .ok (.aload_n 0, 1) := by decide +kernel
theorem d_M_slot_1 : decode b_M_slot 1 = .ok (.iconst 0, 1) := by decide +kernel
theorem d_M_slot_2 : decode b_M_slot 2 = .ok (.putfield 75, 3) := by decide +kernel
theorem d_M_slot_5 : decode b_M_slot 5 = .ok (.aload_n 0, 1) := by decide +kernel
theorem d_M_slot_6 : decode b_M_slot 6 = .ok (.iload_n 1, 1) := by decide +kernel
theorem d_M_slot_7 : decode b_M_slot 7 = .ok (.invokevirtual 112, 3) := by decide +kernel
theorem d_M_slot_10 : decode b_M_slot 10 = .ok (.ifCond .ne 5, 3) := by decide +kernel
theorem d_M_slot_13 : decode b_M_slot 13 = .ok (.iconst (-1), 1) := by decide +kernel
theorem d_M_slot_14 : decode b_M_slot 14 = .ok (.ireturn, 1) := by decide +kernel
theorem d_M_slot_15 : decode b_M_slot 15 = .ok (.iload_n 2, 1) := by decide +kernel
theorem d_M_slot_16 : decode b_M_slot 16 = .ok (.tableswitch 107 0 5 #[40, 47, 54, 68, 75, 89], 40) := by decide +kernel
theorem d_M_slot_56 : decode b_M_slot 56 = .ok (.aload_n 0, 1) := by decide +kernel
theorem d_M_slot_57 : decode b_M_slot 57 = .ok (.getfield 29, 3) := by decide +kernel
theorem d_M_slot_60 : decode b_M_slot 60 = .ok (.iload_n 1, 1) := by decide +kernel
theorem d_M_slot_61 : decode b_M_slot 61 = .ok (.iaload, 1) := by decide +kernel
theorem d_M_slot_62 : decode b_M_slot 62 = .ok (.ireturn, 1) := by decide +kernel
theorem d_M_slot_63 : decode b_M_slot 63 = .ok (.aload_n 0, 1) := by decide +kernel
theorem d_M_slot_64 : decode b_M_slot 64 = .ok (.getfield 32, 3) := by decide +kernel
theorem d_M_slot_67 : decode b_M_slot 67 = .ok (.iload_n 1, 1) := by decide +kernel
theorem d_M_slot_68 : decode b_M_slot 68 = .ok (.iaload, 1) := by decide +kernel
theorem d_M_slot_69 : decode b_M_slot 69 = .ok (.ireturn, 1) := by decide +kernel
theorem d_M_slot_70 : decode b_M_slot 70 = .ok (.iload_n 1, 1) := by decide +kernel
theorem d_M_slot_71 : decode b_M_slot 71 = .ok (.aload_n 0, 1) := by decide +kernel
theorem d_M_slot_72 : decode b_M_slot 72 = .ok (.getfield 85, 3) := by decide +kernel
theorem d_M_slot_75 : decode b_M_slot 75 = .ok (.if_icmp .ge 7, 3) := by decide +kernel
theorem d_M_slot_78 : decode b_M_slot 78 = .ok (.iconst 0, 1) := by decide +kernel
theorem d_M_slot_79 : decode b_M_slot 79 = .ok (.goto 4, 3) := by decide +kernel
theorem d_M_slot_82 : decode b_M_slot 82 = .ok (.iconst 1, 1) := by decide +kernel
theorem d_M_slot_83 : decode b_M_slot 83 = .ok (.ireturn, 1) := by decide +kernel
theorem d_M_slot_84 : decode b_M_slot 84 = .ok (.aload_n 0, 1) := by decide +kernel
theorem d_M_slot_85 : decode b_M_slot 85 = .ok (.getfield 38, 3) := by decide +kernel
theorem d_M_slot_88 : decode b_M_slot 88 = .ok (.iload_n 1, 1) := by decide +kernel
theorem d_M_slot_89 : decode b_M_slot 89 = .ok (.iaload, 1) := by decide +kernel
theorem d_M_slot_90 : decode b_M_slot 90 = .ok (.ireturn, 1) := by decide +kernel
theorem d_M_slot_91 : decode b_M_slot 91 = .ok (.aload_n 0, 1) := by decide +kernel
theorem d_M_slot_92 : decode b_M_slot 92 = .ok (.invokevirtual 125, 3) := by decide +kernel
theorem d_M_slot_95 : decode b_M_slot 95 = .ok (.aload_n 0, 1) := by decide +kernel
theorem d_M_slot_96 : decode b_M_slot 96 = .ok (.invokevirtual 128, 3) := by decide +kernel
theorem d_M_slot_99 : decode b_M_slot 99 = .ok (.aload_n 0, 1) := by decide +kernel
theorem d_M_slot_100 : decode b_M_slot 100 = .ok (.iload_n 1, 1) := by decide +kernel
theorem d_M_slot_101 : decode b_M_slot 101 = .ok (.invokevirtual 131, 3) := by decide +kernel
theorem d_M_slot_104 : decode b_M_slot 104 = .ok (.ireturn, 1) := by decide +kernel
theorem d_M_slot_105 : decode b_M_slot 105 = .ok (.aload_n 0, 1) := by decide +kernel
theorem d_M_slot_106 : decode b_M_slot 106 = .ok (.getfield 91, 3) := by decide +kernel
theorem d_M_slot_109 : decode b_M_slot 109 = .ok (.ifCond .eq 12, 3) := by decide +kernel
theorem d_M_slot_112 : decode b_M_slot 112 = .ok (.aload_n 0, 1) := by decide +kernel
theorem d_M_slot_113 : decode b_M_slot 113 = .ok (.getfield 44, 3) := by decide +kernel
theorem d_M_slot_116 : decode b_M_slot 116 = .ok (.iload_n 1, 1) := by decide +kernel
theorem d_M_slot_117 : decode b_M_slot 117 = .ok (.iaload, 1) := by decide +kernel
theorem d_M_slot_118 : decode b_M_slot 118 = .ok (.goto 4, 3) := by decide +kernel
theorem d_M_slot_121 : decode b_M_slot 121 = .ok (.iconst (-1), 1) := by decide +kernel
theorem d_M_slot_122 : decode b_M_slot 122 = .ok (.ireturn, 1) := by decide +kernel
theorem d_M_slot_123 : decode b_M_slot 123 = .ok (.iconst (-1), 1) := by decide +kernel
theorem d_M_slot_124 : decode b_M_slot 124 = .ok (.ireturn, 1) := by decide +kernel
theorem d_M_isBefore_0 : decode b_M_isBefore 0 = .ok (.aload_n 0, 1) := by decide +kernel
theorem d_M_isBefore_1 : decode b_M_isBefore 1 = .ok (.getfield 26, 3) := by decide +kernel
theorem d_M_isBefore_4 : decode b_M_isBefore 4 = .ok (.iload_n 1, 1) := by decide +kernel
theorem d_M_isBefore_5 : decode b_M_isBefore 5 = .ok (.iaload, 1) := by decide +kernel
theorem d_M_isBefore_6 : decode b_M_isBefore 6 = .ok (.aload_n 0, 1) := by decide +kernel
theorem d_M_isBefore_7 : decode b_M_isBefore 7 = .ok (.getfield 26, 3) := by decide +kernel
theorem d_M_isBefore_10 : decode b_M_isBefore 10 = .ok (.iload_n 2, 1) := by decide +kernel
theorem d_M_isBefore_11 : decode b_M_isBefore 11 = .ok (.iaload, 1) := by decide +kernel
theorem d_M_isBefore_12 : decode b_M_isBefore 12 = .ok (.if_icmp .eq 26, 3) := by decide +kernel
theorem d_M_isBefore_15 : decode b_M_isBefore 15 = .ok (.aload_n 0, 1) := by decide +kernel
theorem d_M_isBefore_16 : decode b_M_isBefore 16 = .ok (.getfield 26, 3) := by decide +kernel
theorem d_M_isBefore_19 : decode b_M_isBefore 19 = .ok (.iload_n 1, 1) := by decide +kernel
theorem d_M_isBefore_20 : decode b_M_isBefore 20 = .ok (.iaload, 1) := by decide +kernel
theorem d_M_isBefore_21 : decode b_M_isBefore 21 = .ok (.aload_n 0, 1) := by decide +kernel
theorem d_M_isBefore_22 : decode b_M_isBefore 22 = .ok (.getfield 26, 3) := by decide +kernel
theorem d_M_isBefore_25 : decode b_M_isBefore 25 = .ok (.iload_n 2, 1) := by decide +kernel
theorem d_M_isBefore_26 : decode b_M_isBefore 26 = .ok (.iaload, 1) := by decide +kernel
theorem d_M_isBefore_27 : decode b_M_isBefore 27 = .ok (.if_icmp .le 7, 3) := by decide +kernel
theorem d_M_isBefore_30 : decode b_M_isBefore 30 = .ok (.iconst 1, 1) := by decide +kernel
theorem d_M_isBefore_31 : decode b_M_isBefore 31 = .ok (.goto 17, 3) := by decide +kernel
theorem d_M_isBefore_34 : decode b_M_isBefore 34 = .ok (.iconst 0, 1) := by decide +kernel
theorem d_M_isBefore_35 : decode b_M_isBefore 35 = .ok (.goto 13, 3) := by decide +kernel
theorem d_M_isBefore_38 : decode b_M_isBefore 38 = .ok (.iload_n 1, 1) := by decide +kernel
theorem d_M_isBefore_39 : decode b_M_isBefore 39 = .ok (.iload_n 2, 1) := by decide +kernel
theorem d_M_isBefore_40 : decode b_M_isBefore 40 = .ok (.if_icmp .ge 7, 3) := by decide +kernel
theorem d_M_isBefore_43 : decode b_M_isBefore 43 = .ok (.iconst 1, 1) := by decide +kernel
theorem d_M_isBefore_44 : decode b_M_isBefore 44 = .ok (.goto 4, 3) := by decide +kernel
theorem d_M_isBefore_47 : decode b_M_isBefore 47 = .ok (.iconst 0, 1) := by decide +kernel
theorem d_M_isBefore_48 : decode b_M_isBefore 48 = .ok (.ireturn, 1) := by decide +kernel
theorem d_M_open_0 : decode b_M_open 0 = .ok (.aload_n 0, 1) := by decide +kernel
theorem d_M_open_1 : decode b_M_open 1 = .ok (.invokevirtual 128, 3) := by decide +kernel
theorem d_M_open_4 : decode b_M_open 4 = .ok (.iconst (-1), 1) := by decide +kernel
theorem d_M_open_5 : decode b_M_open 5 = .ok (.istore_n 2, 1) := by decide +kernel
theorem d_M_open_6 : decode b_M_open 6 = .ok (.bipush 81, 2) := by decide +kernel
theorem d_M_open_8 : decode b_M_open 8 = .ok (.istore_n 3, 1) := by decide +kernel
theorem d_M_open_9 : decode b_M_open 9 = .ok (.iconst 0, 1) := by decide +kernel
theorem d_M_open_10 : decode b_M_open 10 = .ok (.istore 4, 2) := by decide +kernel
theorem d_M_open_12 : decode b_M_open 12 = .ok (.iload 4, 2) := by decide +kernel
theorem d_M_open_14 : decode b_M_open 14 = .ok (.aload_n 0, 1) := by decide +kernel
theorem d_M_open_15 : decode b_M_open 15 = .ok (.getfield 82, 3) := by decide +kernel
theorem d_M_open_18 : decode b_M_open 18 = .ok (.if_icmp .ge 46, 3) := by decide +kernel
theorem d_M_open_21 : decode b_M_open 21 = .ok (.aload_n 0, 1) := by decide +kernel
theorem d_M_open_22 : decode b_M_open 22 = .ok (.getfield 41, 3) := by decide +kernel
theorem d_M_open_25 : decode b_M_open 25 = .ok (.iload 4, 2) := by decide +kernel
theorem d_M_open_27 : decode b_M_open 27 = .ok (.iaload, 1) := by decide +kernel
theorem d_M_open_28 : decode b_M_open 28 = .ok (.iconst (-1), 1) := by decide +kernel
theorem d_M_open_29 : decode b_M_open 29 = .ok (.if_icmp .eq 6, 3) := by decide +kernel
theorem d_M_open_32 : decode b_M_open 32 = .ok (.goto 26, 3) := by decide +kernel
theorem d_M_open_35 : decode b_M_open 35 = .ok (.aload_n 0, 1) := by decide +kernel
theorem d_M_open_36 : decode b_M_open 36 = .ok (.iload 4, 2) := by decide +kernel
theorem d_M_open_38 : decode b_M_open 38 = .ok (.invokevirtual 131, 3) := by decide +kernel
theorem d_M_open_41 : decode b_M_open 41 = .ok (.istore 5, 2) := by decide +kernel
theorem d_M_open_43 : decode b_M_open 43 = .ok (.iload 5, 2) := by decide +kernel
theorem d_M_open_45 : decode b_M_open 45 = .ok (.iload_n 3, 1) := by decide +kernel
theorem d_M_open_46 : decode b_M_open 46 = .ok (.if_icmp .lt 6, 3) := by decide +kernel
theorem d_M_open_49 : decode b_M_open 49 = .ok (.goto 9, 3) := by decide +kernel
theorem d_M_open_52 : decode b_M_open 52 = .ok (.iload 4, 2) := by decide +kernel
theorem d_M_open_54 : decode b_M_open 54 = .ok (.istore_n 2, 1) := by decide +kernel
theorem d_M_open_55 : decode b_M_open 55 = .ok (.iload 5, 2) := by decide +kernel
theorem d_M_open_57 : decode b_M_open 57 = .ok (.istore_n 3, 1) := by decide +kernel
theorem d_M_open_58 : decode b_M_open 58 = .ok (.iinc 4 1, 3) := by decide +kernel
theorem d_M_open_61 : decode b_M_open 61 = .ok (.goto (-49), 3) := by decide +kernel
theorem d_M_open_64 : decode b_M_open 64 = .ok (.iload_n 2, 1) := by decide +kernel
theorem d_M_open_65 : decode b_M_open 65 = .ok (.iconst (-1), 1) := by decide +kernel
theorem d_M_open_66 : decode b_M_open 66 = .ok (.if_icmp .ne 5, 3) := by decide +kernel
theorem d_M_open_69 : decode b_M_open 69 = .ok (.iconst 0, 1) := by decide +kernel
theorem d_M_open_70 : decode b_M_open 70 = .ok (.ireturn, 1) := by decide +kernel
theorem d_M_open_71 : decode b_M_open 71 = .ok (.aload_n 0, 1) := by decide +kernel
theorem d_M_open_72 : decode b_M_open 72 = .ok (.getfield 50, 3) := by decide +kernel
theorem d_M_open_75 : decode b_M_open 75 = .ok (.iload_n 1, 1) := by decide +kernel
theorem d_M_open_76 : decode b_M_open 76 = .ok (.iload_n 2, 1) := by decide +kernel
theorem d_M_open_77 : decode b_M_open 77 = .ok (.iastore, 1) := by decide +kernel
theorem d_M_open_78 : decode b_M_open 78 = .ok (.aload_n 0, 1) := by decide +kernel
theorem d_M_open_79 : decode b_M_open 79 = .ok (.getfield 56, 3) := by decide +kernel
theorem d_M_open_82 : decode b_M_open 82 = .ok (.iload_n 1, 1) := by decide +kernel
theorem d_M_open_83 : decode b_M_open 83 = .ok (.iconst 0, 1) := by decide +kernel
theorem d_M_open_84 : decode b_M_open 84 = .ok (.iastore, 1) := by decide +kernel
theorem d_M_open_85 : decode b_M_open 85 = .ok (.iconst 0, 1) := by decide +kernel
theorem d_M_open_86 : decode b_M_open 86 = .ok (.istore 4, 2) := by decide +kernel
theorem d_M_open_88 : decode b_M_open 88 = .ok (.iconst 0, 1) := by decide +kernel
theorem d_M_open_89 : decode b_M_open 89 = .ok (.istore 5, 2) := by decide +kernel
theorem d_M_open_91 : decode b_M_open 91 = .ok (.iload 5, 2) := by decide +kernel
theorem d_M_open_93 : decode b_M_open 93 = .ok (.aload_n 0, 1) := by decide +kernel
theorem d_M_open_94 : decode b_M_open 94 = .ok (.getfield 102, 3) := by decide +kernel
theorem d_M_open_97 : decode b_M_open 97 = .ok (.if_icmp .ge 103, 3) := by decide +kernel
theorem d_M_open_100 : decode b_M_open 100 = .ok (.aload_n 0, 1) := by decide +kernel
theorem d_M_open_101 : decode b_M_open 101 = .ok (.iload_n 2, 1) := by decide +kernel
theorem d_M_open_102 : decode b_M_open 102 = .ok (.iload 5, 2) := by decide +kernel
theorem d_M_open_104 : decode b_M_open 104 = .ok (.invokevirtual 122, 3) := by decide +kernel
theorem d_M_open_107 : decode b_M_open 107 = .ok (.ifCond .ne 6, 3) := by decide +kernel
theorem d_M_open_110 : decode b_M_open 110 = .ok (.goto 84, 3) := by decide +kernel
theorem d_M_open_113 : decode b_M_open 113 = .ok (.iload 4, 2) := by decide +kernel
theorem d_M_open_115 : decode b_M_open 115 = .ok (.istore 6, 2) := by decide +kernel
theorem d_M_open_117 : decode b_M_open 117 = .ok (.iload 6, 2) := by decide +kernel
theorem d_M_open_119 : decode b_M_open 119 = .ok (.ifCond .le 58, 3) := by decide +kernel
theorem d_M_open_122 : decode b_M_open 122 = .ok (.aload_n 0, 1) := by decide +kernel
theorem d_M_open_123 : decode b_M_open 123 = .ok (.iload 5, 2) := by decide +kernel
theorem d_M_open_125 : decode b_M_open 125 = .ok (.aload_n 0, 1) := by decide +kernel
theorem d_M_open_126 : decode b_M_open 126 = .ok (.getfield 59, 3) := by decide +kernel
theorem d_M_open_129 : decode b_M_open 129 = .ok (.bipush 80, 2) := by decide +kernel
theorem d_M_open_131 : decode b_M_open 131 = .ok (.iload_n 1, 1) := by decide +kernel
theorem d_M_open_132 : decode b_M_open 132 = .ok (.imul, 1) := by decide +kernel
theorem d_M_open_133 : decode b_M_open 133 = .ok (.iload 6, 2) := by decide +kernel
theorem d_M_open_135 : decode b_M_open 135 = .ok (.iadd, 1) := by decide +kernel
theorem d_M_open_136 : decode b_M_open 136 = .ok (.iconst 1, 1) := by decide +kernel
theorem d_M_open_137 : decode b_M_open 137 = .ok (.isub, 1) := by decide +kernel
theorem d_M_open_138 : decode b_M_open 138 = .ok (.iaload, 1) := by decide +kernel
theorem d_M_open_139 : decode b_M_open 139 = .ok (.invokevirtual 134, 3) := by decide +kernel
theorem d_M_open_142 : decode b_M_open 142 = .ok (.ifCond .eq 35, 3) := by decide +kernel
theorem d_M_open_145 : decode b_M_open 145 = .ok (.aload_n 0, 1) := by decide +kernel
theorem d_M_open_146 : decode b_M_open 146 = .ok (.getfield 59, 3) := by decide +kernel
theorem d_M_open_149 : decode b_M_open 149 = .ok (.bipush 80, 2) := by decide +kernel
theorem d_M_open_151 : decode b_M_open 151 = .ok (.iload_n 1, 1) := by decide +kernel
theorem d_M_open_152 : decode b_M_open 152 = .ok (.imul, 1) := by decide +kernel
theorem d_M_open_153 : decode b_M_open 153 = .ok (.iload 6, 2) := by decide +kernel
theorem d_M_open_155 : decode b_M_open 155 = .ok (.iadd, 1) := by decide +kernel
theorem d_M_open_156 : decode b_M_open 156 = .ok (.aload_n 0, 1) := by decide +kernel
theorem d_M_open_157 : decode b_M_open 157 = .ok (.getfield 59, 3) := by decide +kernel
theorem d_M_open_160 : decode b_M_open 160 = .ok (.bipush 80, 2) := by decide +kernel
theorem d_M_open_162 : decode b_M_open 162 = .ok (.iload_n 1, 1) := by decide +kernel
theorem d_M_open_163 : decode b_M_open 163 = .ok (.imul, 1) := by decide +kernel
theorem d_M_open_164 : decode b_M_open 164 = .ok (.iload 6, 2) := by decide +kernel
theorem d_M_open_166 : decode b_M_open 166 = .ok (.iadd, 1) := by decide +kernel
theorem d_M_open_167 : decode b_M_open 167 = .ok (.iconst 1, 1) := by decide +kernel
theorem d_M_open_168 : decode b_M_open 168 = .ok (.isub, 1) := by decide +kernel
theorem d_M_open_169 : decode b_M_open 169 = .ok (.iaload, 1) := by decide +kernel
theorem d_M_open_170 : decode b_M_open 170 = .ok (.iastore, 1) := by decide +kernel
theorem d_M_open_171 : decode b_M_open 171 = .ok (.iinc 6 (-1), 3) := by decide +kernel
theorem d_M_open_174 : decode b_M_open 174 = .ok (.goto (-57), 3) := by decide +kernel
theorem d_M_open_177 : decode b_M_open 177 = .ok (.aload_n 0, 1) := by decide +kernel
theorem d_M_open_178 : decode b_M_open 178 = .ok (.getfield 59, 3) := by decide +kernel
theorem d_M_open_181 : decode b_M_open 181 = .ok (.bipush 80, 2) := by decide +kernel
theorem d_M_open_183 : decode b_M_open 183 = .ok (.iload_n 1, 1) := by decide +kernel
theorem d_M_open_184 : decode b_M_open 184 = .ok (.imul, 1) := by decide +kernel
theorem d_M_open_185 : decode b_M_open 185 = .ok (.iload 6, 2) := by decide +kernel
theorem d_M_open_187 : decode b_M_open 187 = .ok (.iadd, 1) := by decide +kernel
theorem d_M_open_188 : decode b_M_open 188 = .ok (.iload 5, 2) := by decide +kernel
theorem d_M_open_190 : decode b_M_open 190 = .ok (.iastore, 1) := by decide +kernel
theorem d_M_open_191 : decode b_M_open 191 = .ok (.iinc 4 1, 3) := by decide +kernel
theorem d_M_open_194 : decode b_M_open 194 = .ok (.iinc 5 1, 3) := by decide +kernel
theorem d_M_open_197 : decode b_M_open 197 = .ok (.goto (-106), 3) := by decide +kernel
theorem d_M_open_200 : decode b_M_open 200 = .ok (.aload_n 0, 1) := by decide +kernel
theorem d_M_open_201 : decode b_M_open 201 = .ok (.getfield 53, 3) := by decide +kernel
theorem d_M_open_204 : decode b_M_open 204 = .ok (.iload_n 1, 1) := by decide +kernel
theorem d_M_open_205 : decode b_M_open 205 = .ok (.iload 4, 2) := by decide +kernel
theorem d_M_open_207 : decode b_M_open 207 = .ok (.iastore, 1) := by decide +kernel
theorem d_M_open_208 : decode b_M_open 208 = .ok (.iconst 1, 1) := by decide +kernel
theorem d_M_open_209 : decode b_M_open 209 = .ok (.ireturn, 1) := by decide +kernel
theorem d_M_sumNow_0 : decode b_M_sumNow 0 = .ok (.iconst 0, 1) := by decide +kernel
theorem d_M_sumNow_1 : decode b_M_sumNow 1 = .ok (.istore_n 1, 1) := by decide +kernel
theorem d_M_sumNow_2 : decode b_M_sumNow 2 = .ok (.iconst 0, 1) := by decide +kernel
theorem d_M_sumNow_3 : decode b_M_sumNow 3 = .ok (.istore_n 2, 1) := by decide +kernel
theorem d_M_sumNow_4 : decode b_M_sumNow 4 = .ok (.iload_n 2, 1) := by decide +kernel
theorem d_M_sumNow_5 : decode b_M_sumNow 5 = .ok (.aload_n 0, 1) := by decide +kernel
theorem d_M_sumNow_6 : decode b_M_sumNow 6 = .ok (.getfield 82, 3) := by decide +kernel
theorem d_M_sumNow_9 : decode b_M_sumNow 9 = .ok (.if_icmp .ge 23, 3) := by decide +kernel
theorem d_M_sumNow_12 : decode b_M_sumNow 12 = .ok (.iload_n 1, 1) := by decide +kernel
theorem d_M_sumNow_13 : decode b_M_sumNow 13 = .ok (.aload_n 0, 1) := by decide +kernel
theorem d_M_sumNow_14 : decode b_M_sumNow 14 = .ok (.getfield 26, 3) := by decide +kernel
theorem d_M_sumNow_17 : decode b_M_sumNow 17 = .ok (.aload_n 0, 1) := by decide +kernel
theorem d_M_sumNow_18 : decode b_M_sumNow 18 = .ok (.getfield 41, 3) := by decide +kernel
theorem d_M_sumNow_21 : decode b_M_sumNow 21 = .ok (.iload_n 2, 1) := by decide +kernel
theorem d_M_sumNow_22 : decode b_M_sumNow 22 = .ok (.iaload, 1) := by decide +kernel
theorem d_M_sumNow_23 : decode b_M_sumNow 23 = .ok (.iaload, 1) := by decide +kernel
theorem d_M_sumNow_24 : decode b_M_sumNow 24 = .ok (.iadd, 1) := by decide +kernel
theorem d_M_sumNow_25 : decode b_M_sumNow 25 = .ok (.istore_n 1, 1) := by decide +kernel
theorem d_M_sumNow_26 : decode b_M_sumNow 26 = .ok (.iinc 2 1, 3) := by decide +kernel
theorem d_M_sumNow_29 : decode b_M_sumNow 29 = .ok (.goto (-25), 3) := by decide +kernel
theorem d_M_sumNow_32 : decode b_M_sumNow 32 = .ok (.iload_n 1, 1) := by decide +kernel
theorem d_M_sumNow_33 : decode b_M_sumNow 33 = .ok (.ireturn, 1) := by decide +kernel
theorem d_M_search_0 : decode b_M_search 0 = .ok (.aload_n 0, 1) := by decide +kernel
theorem d_M_search_1 : decode b_M_search 1 = .ok (.invokevirtual 125, 3) := by decide +kernel
theorem d_M_search_4 : decode b_M_search 4 = .ok (.aload_n 0, 1) := by decide +kernel
theorem d_M_search_5 : decode b_M_search 5 = .ok (.iconst 0, 1) := by decide +kernel
theorem d_M_search_6 : decode b_M_search 6 = .ok (.putfield 91, 3) := by decide +kernel
theorem d_M_search_9 : decode b_M_search 9 = .ok (.aload_n 0, 1) := by decide +kernel
theorem d_M_search_10 : decode b_M_search 10 = .ok (.iconst 0, 1) := by decide +kernel
theorem d_M_search_11 : decode b_M_search 11 = .ok (.putfield 137, 3) := by decide +kernel
theorem d_M_search_14 : decode b_M_search 14 = .ok (.aload_n 0, 1) := by decide +kernel
theorem d_M_search_15 : decode b_M_search 15 = .ok (.iconst 0, 1) := by decide +kernel
theorem d_M_search_16 : decode b_M_search 16 = .ok (.putfield 140, 3) := by decide +kernel
theorem d_M_search_19 : decode b_M_search 19 = .ok (.iconst (-1), 1) := by decide +kernel
theorem d_M_search_20 : decode b_M_search 20 = .ok (.istore_n 3, 1) := by decide +kernel
theorem d_M_search_21 : decode b_M_search 21 = .ok (.iconst 0, 1) := by decide +kernel
theorem d_M_search_22 : decode b_M_search 22 = .ok (.istore 4, 2) := by decide +kernel
theorem d_M_search_24 : decode b_M_search 24 = .ok (.iconst 1, 1) := by decide +kernel
theorem d_M_search_25 : decode b_M_search 25 = .ok (.istore 5, 2) := by decide +kernel
theorem d_M_search_27 : decode b_M_search 27 = .ok (.iload 4, 2) := by decide +kernel
theorem d_M_search_29 : decode b_M_search 29 = .ok (.ifCond .lt 199, 3) := by decide +kernel
theorem d_M_search_32 : decode b_M_search 32 = .ok (.iload 5, 2) := by decide +kernel
theorem d_M_search_34 : decode b_M_search 34 = .ok (.ifCond .eq 85, 3) := by decide +kernel
theorem d_M_search_37 : decode b_M_search 37 = .ok (.aload_n 0, 1) := by decide +kernel
theorem d_M_search_38 : decode b_M_search 38 = .ok (.iload 4, 2) := by decide +kernel
theorem d_M_search_40 : decode b_M_search 40 = .ok (.invokevirtual 143, 3) := by decide +kernel
theorem d_M_search_43 : decode b_M_search 43 = .ok (.ifCond .ne 76, 3) := by decide +kernel
theorem d_M_search_46 : decode b_M_search 46 = .ok (.aload_n 0, 1) := by decide +kernel
theorem d_M_search_47 : decode b_M_search 47 = .ok (.dup, 1) := by decide +kernel
theorem d_M_search_48 : decode b_M_search 48 = .ok (.getfield 140, 3) := by decide +kernel
theorem d_M_search_51 : decode b_M_search 51 = .ok (.iconst 1, 1) := by decide +kernel
theorem d_M_search_52 : decode b_M_search 52 = .ok (.iadd, 1) := by decide +kernel
theorem d_M_search_53 : decode b_M_search 53 = .ok (.putfield 140, 3) := by decide +kernel
theorem d_M_search_56 : decode b_M_search 56 = .ok (.aload_n 0, 1) := by decide +kernel
theorem d_M_search_57 : decode b_M_search 57 = .ok (.invokevirtual 146, 3) := by decide +kernel
theorem d_M_search_60 : decode b_M_search 60 = .ok (.iload_n 3, 1) := by decide +kernel
theorem d_M_search_61 : decode b_M_search 61 = .ok (.if_icmp .le 43, 3) := by decide +kernel
theorem d_M_search_64 : decode b_M_search 64 = .ok (.aload_n 0, 1) := by decide +kernel
theorem d_M_search_65 : decode b_M_search 65 = .ok (.invokevirtual 146, 3) := by decide +kernel
theorem d_M_search_68 : decode b_M_search 68 = .ok (.istore_n 3, 1) := by decide +kernel
theorem d_M_search_69 : decode b_M_search 69 = .ok (.aload_n 0, 1) := by decide +kernel
theorem d_M_search_70 : decode b_M_search 70 = .ok (.iconst 1, 1) := by decide +kernel
theorem d_M_search_71 : decode b_M_search 71 = .ok (.putfield 91, 3) := by decide +kernel
theorem d_M_search_74 : decode b_M_search 74 = .ok (.iconst 0, 1) := by decide +kernel
theorem d_M_search_75 : decode b_M_search 75 = .ok (.istore 6, 2) := by decide +kernel
theorem d_M_search_77 : decode b_M_search 77 = .ok (.iload 6, 2) := by decide +kernel
theorem d_M_search_79 : decode b_M_search 79 = .ok (.bipush 36, 2) := by decide +kernel
theorem d_M_search_81 : decode b_M_search 81 = .ok (.if_icmp .ge 23, 3) := by decide +kernel
theorem d_M_search_84 : decode b_M_search 84 = .ok (.aload_n 0, 1) := by decide +kernel
theorem d_M_search_85 : decode b_M_search 85 = .ok (.getfield 44, 3) := by decide +kernel
theorem d_M_search_88 : decode b_M_search 88 = .ok (.iload 6, 2) := by decide +kernel
theorem d_M_search_90 : decode b_M_search 90 = .ok (.aload_n 0, 1) := by decide +kernel
end
section
theorem d_M_search_91 : decode b_M_search 91 = .ok (.getfield 41, 3) := by decide +kernel
theorem d_M_search_94 : decode b_M_search 94 = .ok (.iload 6, 2) := by decide +kernel
theorem d_M_search_96 : decode b_M_search 96 = .ok (.iaload, 1) := by decide +kernel
theorem d_M_search_97 : decode b_M_search 97 = .ok (.iastore, 1) := by decide +kernel
theorem d_M_search_98 : decode b_M_search 98 = .ok (.iinc 6 1, 3) := by decide +kernel
theorem d_M_search_101 : decode b_M_search 101 = .ok (.goto (-24), 3) := by decide +kernel
theorem d_M_search_104 : decode b_M_search 104 = .ok (.iload_n 2, 1) := by decide +kernel
theorem d_M_search_105 : decode b_M_search 105 = .ok (.ifCond .ne 5, 3) := by decide +kernel
theorem d_M_search_108 : decode b_M_search 108 = .ok (.iconst 0, 1) := by decide +kernel
theorem d_M_search_109 : decode b_M_search 109 = .ok (.ireturn, 1) := by decide +kernel
theorem d_M_search_110 : decode b_M_search 110 = .ok (.iinc 4 (-1), 3) := by decide +kernel
theorem d_M_search_113 : decode b_M_search 113 = .ok (.iconst 0, 1) := by decide +kernel
theorem d_M_search_114 : decode b_M_search 114 = .ok (.istore 5, 2) := by decide +kernel
theorem d_M_search_116 : decode b_M_search 116 = .ok (.goto (-89), 3) := by decide +kernel
theorem d_M_search_119 : decode b_M_search 119 = .ok (.aload_n 0, 1) := by decide +kernel
theorem d_M_search_120 : decode b_M_search 120 = .ok (.getfield 41, 3) := by decide +kernel
theorem d_M_search_123 : decode b_M_search 123 = .ok (.aload_n 0, 1) := by decide +kernel
theorem d_M_search_124 : decode b_M_search 124 = .ok (.getfield 50, 3) := by decide +kernel
theorem d_M_search_127 : decode b_M_search 127 = .ok (.iload 4, 2) := by decide +kernel
theorem d_M_search_129 : decode b_M_search 129 = .ok (.iaload, 1) := by decide +kernel
theorem d_M_search_130 : decode b_M_search 130 = .ok (.iconst (-1), 1) := by decide +kernel
theorem d_M_search_131 : decode b_M_search 131 = .ok (.iastore, 1) := by decide +kernel
theorem d_M_search_132 : decode b_M_search 132 = .ok (.aload_n 0, 1) := by decide +kernel
theorem d_M_search_133 : decode b_M_search 133 = .ok (.getfield 56, 3) := by decide +kernel
theorem d_M_search_136 : decode b_M_search 136 = .ok (.iload 4, 2) := by decide +kernel
theorem d_M_search_138 : decode b_M_search 138 = .ok (.iaload, 1) := by decide +kernel
theorem d_M_search_139 : decode b_M_search 139 = .ok (.aload_n 0, 1) := by decide +kernel
theorem d_M_search_140 : decode b_M_search 140 = .ok (.getfield 53, 3) := by decide +kernel
theorem d_M_search_143 : decode b_M_search 143 = .ok (.iload 4, 2) := by decide +kernel
theorem d_M_search_145 : decode b_M_search 145 = .ok (.iaload, 1) := by decide +kernel
theorem d_M_search_146 : decode b_M_search 146 = .ok (.if_icmp .ne 12, 3) := by decide +kernel
theorem d_M_search_149 : decode b_M_search 149 = .ok (.iinc 4 (-1), 3) := by decide +kernel
theorem d_M_search_152 : decode b_M_search 152 = .ok (.iconst 0, 1) := by decide +kernel
theorem d_M_search_153 : decode b_M_search 153 = .ok (.istore 5, 2) := by decide +kernel
theorem d_M_search_155 : decode b_M_search 155 = .ok (.goto (-128), 3) := by decide +kernel
theorem d_M_search_158 : decode b_M_search 158 = .ok (.aload_n 0, 1) := by decide +kernel
theorem d_M_search_159 : decode b_M_search 159 = .ok (.getfield 137, 3) := by decide +kernel
theorem d_M_search_162 : decode b_M_search 162 = .ok (.iload_n 1, 1) := by decide +kernel
theorem d_M_search_163 : decode b_M_search 163 = .ok (.if_icmp .ne 5, 3) := by decide +kernel
theorem d_M_search_166 : decode b_M_search 166 = .ok (.iconst 2, 1) := by decide +kernel
theorem d_M_search_167 : decode b_M_search 167 = .ok (.ireturn, 1) := by decide +kernel
theorem d_M_search_168 : decode b_M_search 168 = .ok (.aload_n 0, 1) := by decide +kernel
theorem d_M_search_169 : decode b_M_search 169 = .ok (.getfield 41, 3) := by decide +kernel
theorem d_M_search_172 : decode b_M_search 172 = .ok (.aload_n 0, 1) := by decide +kernel
theorem d_M_search_173 : decode b_M_search 173 = .ok (.getfield 50, 3) := by decide +kernel
theorem d_M_search_176 : decode b_M_search 176 = .ok (.iload 4, 2) := by decide +kernel
theorem d_M_search_178 : decode b_M_search 178 = .ok (.iaload, 1) := by decide +kernel
theorem d_M_search_179 : decode b_M_search 179 = .ok (.aload_n 0, 1) := by decide +kernel
theorem d_M_search_180 : decode b_M_search 180 = .ok (.getfield 59, 3) := by decide +kernel
theorem d_M_search_183 : decode b_M_search 183 = .ok (.bipush 80, 2) := by decide +kernel
theorem d_M_search_185 : decode b_M_search 185 = .ok (.iload 4, 2) := by decide +kernel
theorem d_M_search_187 : decode b_M_search 187 = .ok (.imul, 1) := by decide +kernel
theorem d_M_search_188 : decode b_M_search 188 = .ok (.aload_n 0, 1) := by decide +kernel
theorem d_M_search_189 : decode b_M_search 189 = .ok (.getfield 56, 3) := by decide +kernel
theorem d_M_search_192 : decode b_M_search 192 = .ok (.iload 4, 2) := by decide +kernel
theorem d_M_search_194 : decode b_M_search 194 = .ok (.iaload, 1) := by decide +kernel
theorem d_M_search_195 : decode b_M_search 195 = .ok (.iadd, 1) := by decide +kernel
theorem d_M_search_196 : decode b_M_search 196 = .ok (.iaload, 1) := by decide +kernel
theorem d_M_search_197 : decode b_M_search 197 = .ok (.iastore, 1) := by decide +kernel
theorem d_M_search_198 : decode b_M_search 198 = .ok (.aload_n 0, 1) := by decide +kernel
theorem d_M_search_199 : decode b_M_search 199 = .ok (.getfield 56, 3) := by decide +kernel
theorem d_M_search_202 : decode b_M_search 202 = .ok (.iload 4, 2) := by decide +kernel
theorem d_M_search_204 : decode b_M_search 204 = .ok (.dup2, 1) := by decide +kernel
theorem d_M_search_205 : decode b_M_search 205 = .ok (.iaload, 1) := by decide +kernel
theorem d_M_search_206 : decode b_M_search 206 = .ok (.iconst 1, 1) := by decide +kernel
theorem d_M_search_207 : decode b_M_search 207 = .ok (.iadd, 1) := by decide +kernel
theorem d_M_search_208 : decode b_M_search 208 = .ok (.iastore, 1) := by decide +kernel
theorem d_M_search_209 : decode b_M_search 209 = .ok (.aload_n 0, 1) := by decide +kernel
theorem d_M_search_210 : decode b_M_search 210 = .ok (.dup, 1) := by decide +kernel
theorem d_M_search_211 : decode b_M_search 211 = .ok (.getfield 137, 3) := by decide +kernel
theorem d_M_search_214 : decode b_M_search 214 = .ok (.iconst 1, 1) := by decide +kernel
theorem d_M_search_215 : decode b_M_search 215 = .ok (.iadd, 1) := by decide +kernel
theorem d_M_search_216 : decode b_M_search 216 = .ok (.putfield 137, 3) := by decide +kernel
theorem d_M_search_219 : decode b_M_search 219 = .ok (.iinc 4 1, 3) := by decide +kernel
theorem d_M_search_222 : decode b_M_search 222 = .ok (.iconst 1, 1) := by decide +kernel
theorem d_M_search_223 : decode b_M_search 223 = .ok (.istore 5, 2) := by decide +kernel
theorem d_M_search_225 : decode b_M_search 225 = .ok (.goto (-198), 3) := by decide +kernel
theorem d_M_search_228 : decode b_M_search 228 = .ok (.aload_n 0, 1) := by decide +kernel
theorem d_M_search_229 : decode b_M_search 229 = .ok (.getfield 91, 3) := by decide +kernel
theorem d_M_search_232 : decode b_M_search 232 = .ok (.ifCond .eq 7, 3) := by decide +kernel
theorem d_M_search_235 : decode b_M_search 235 = .ok (.iconst 0, 1) := by decide +kernel
theorem d_M_search_236 : decode b_M_search 236 = .ok (.goto 4, 3) := by decide +kernel
theorem d_M_search_239 : decode b_M_search 239 = .ok (.iconst 1, 1) := by decide +kernel
theorem d_M_search_240 : decode b_M_search 240 = .ok (.ireturn, 1) := by decide +kernel
theorem d_M_run_0 : decode b_M_run 0 = .ok (.aload_n 0, 1) := by decide +kernel
theorem d_M_run_1 : decode b_M_run 1 = .ok (.iconst 0, 1) := by decide +kernel
theorem d_M_run_2 : decode b_M_run 2 = .ok (.putfield 75, 3) := by decide +kernel
theorem d_M_run_5 : decode b_M_run 5 = .ok (.iload_n 1, 1) := by decide +kernel
theorem d_M_run_6 : decode b_M_run 6 = .ok (.ifCond .lt 10, 3) := by decide +kernel
theorem d_M_run_9 : decode b_M_run 9 = .ok (.iload_n 1, 1) := by decide +kernel
theorem d_M_run_10 : decode b_M_run 10 = .ok (.sipush 20000, 3) := by decide +kernel
theorem d_M_run_13 : decode b_M_run 13 = .ok (.if_icmp .le 7, 3) := by decide +kernel
theorem d_M_run_16 : decode b_M_run 16 = .ok (.iconst (-1), 1) := by decide +kernel
theorem d_M_run_17 : decode b_M_run 17 = .ok (.goto 9, 3) := by decide +kernel
theorem d_M_run_20 : decode b_M_run 20 = .ok (.aload_n 0, 1) := by decide +kernel
theorem d_M_run_21 : decode b_M_run 21 = .ok (.iload_n 1, 1) := by decide +kernel
theorem d_M_run_22 : decode b_M_run 22 = .ok (.iconst 0, 1) := by decide +kernel
theorem d_M_run_23 : decode b_M_run 23 = .ok (.invokevirtual 150, 3) := by decide +kernel
theorem d_M_run_26 : decode b_M_run 26 = .ok (.ireturn, 1) := by decide +kernel
theorem d_M_best_0 : decode b_M_best 0 = .ok (.aload_n 0, 1) := by decide +kernel
theorem d_M_best_1 : decode b_M_best 1 = .ok (.iconst 0, 1) := by decide +kernel
theorem d_M_best_2 : decode b_M_best 2 = .ok (.putfield 75, 3) := by decide +kernel
theorem d_M_best_5 : decode b_M_best 5 = .ok (.iload_n 1, 1) := by decide +kernel
theorem d_M_best_6 : decode b_M_best 6 = .ok (.ifCond .lt 10, 3) := by decide +kernel
theorem d_M_best_9 : decode b_M_best 9 = .ok (.iload_n 1, 1) := by decide +kernel
theorem d_M_best_10 : decode b_M_best 10 = .ok (.sipush 20000, 3) := by decide +kernel
theorem d_M_best_13 : decode b_M_best 13 = .ok (.if_icmp .le 7, 3) := by decide +kernel
theorem d_M_best_16 : decode b_M_best 16 = .ok (.iconst (-1), 1) := by decide +kernel
theorem d_M_best_17 : decode b_M_best 17 = .ok (.goto 9, 3) := by decide +kernel
theorem d_M_best_20 : decode b_M_best 20 = .ok (.aload_n 0, 1) := by decide +kernel
theorem d_M_best_21 : decode b_M_best 21 = .ok (.iload_n 1, 1) := by decide +kernel
theorem d_M_best_22 : decode b_M_best 22 = .ok (.iconst 1, 1) := by decide +kernel
theorem d_M_best_23 : decode b_M_best 23 = .ok (.invokevirtual 150, 3) := by decide +kernel
theorem d_M_best_26 : decode b_M_best 26 = .ok (.ireturn, 1) := by decide +kernel
theorem d_M_steps_0 : decode b_M_steps 0 = .ok (.aload_n 0, 1) := by decide +kernel
theorem d_M_steps_1 : decode b_M_steps 1 = .ok (.iconst 0, 1) := by decide +kernel
theorem d_M_steps_2 : decode b_M_steps 2 = .ok (.putfield 75, 3) := by decide +kernel
theorem d_M_steps_5 : decode b_M_steps 5 = .ok (.aload_n 0, 1) := by decide +kernel
theorem d_M_steps_6 : decode b_M_steps 6 = .ok (.getfield 137, 3) := by decide +kernel
theorem d_M_steps_9 : decode b_M_steps 9 = .ok (.ireturn, 1) := by decide +kernel
theorem d_M_many_0 : decode b_M_many 0 = .ok (.aload_n 0, 1) := by decide +kernel
theorem d_M_many_1 : decode b_M_many 1 = .ok (.iconst 0, 1) := by decide +kernel
theorem d_M_many_2 : decode b_M_many 2 = .ok (.putfield 75, 3) := by decide +kernel
theorem d_M_many_5 : decode b_M_many 5 = .ok (.aload_n 0, 1) := by decide +kernel
theorem d_M_many_6 : decode b_M_many 6 = .ok (.getfield 140, 3) := by decide +kernel
theorem d_M_many_9 : decode b_M_many 9 = .ok (.ireturn, 1) := by decide +kernel
theorem d_M_score_0 : decode b_M_score 0 = .ok (.aload_n 0, 1) := by decide +kernel
theorem d_M_score_1 : decode b_M_score 1 = .ok (.iconst 0, 1) := by decide +kernel
theorem d_M_score_2 : decode b_M_score 2 = .ok (.putfield 75, 3) := by decide +kernel
theorem d_M_score_5 : decode b_M_score 5 = .ok (.aload_n 0, 1) := by decide +kernel
theorem d_M_score_6 : decode b_M_score 6 = .ok (.getfield 91, 3) := by decide +kernel
theorem d_M_score_9 : decode b_M_score 9 = .ok (.ifCond .ne 5, 3) := by decide +kernel
theorem d_M_score_12 : decode b_M_score 12 = .ok (.iconst (-1), 1) := by decide +kernel
theorem d_M_score_13 : decode b_M_score 13 = .ok (.ireturn, 1) := by decide +kernel
theorem d_M_score_14 : decode b_M_score 14 = .ok (.iconst 0, 1) := by decide +kernel
theorem d_M_score_15 : decode b_M_score 15 = .ok (.istore_n 1, 1) := by decide +kernel
theorem d_M_score_16 : decode b_M_score 16 = .ok (.iconst 0, 1) := by decide +kernel
theorem d_M_score_17 : decode b_M_score 17 = .ok (.istore_n 2, 1) := by decide +kernel
theorem d_M_score_18 : decode b_M_score 18 = .ok (.iload_n 2, 1) := by decide +kernel
theorem d_M_score_19 : decode b_M_score 19 = .ok (.aload_n 0, 1) := by decide +kernel
theorem d_M_score_20 : decode b_M_score 20 = .ok (.getfield 82, 3) := by decide +kernel
theorem d_M_score_23 : decode b_M_score 23 = .ok (.if_icmp .ge 23, 3) := by decide +kernel
theorem d_M_score_26 : decode b_M_score 26 = .ok (.iload_n 1, 1) := by decide +kernel
theorem d_M_score_27 : decode b_M_score 27 = .ok (.aload_n 0, 1) := by decide +kernel
theorem d_M_score_28 : decode b_M_score 28 = .ok (.getfield 26, 3) := by decide +kernel
theorem d_M_score_31 : decode b_M_score 31 = .ok (.aload_n 0, 1) := by decide +kernel
theorem d_M_score_32 : decode b_M_score 32 = .ok (.getfield 44, 3) := by decide +kernel
theorem d_M_score_35 : decode b_M_score 35 = .ok (.iload_n 2, 1) := by decide +kernel
theorem d_M_score_36 : decode b_M_score 36 = .ok (.iaload, 1) := by decide +kernel
theorem d_M_score_37 : decode b_M_score 37 = .ok (.iaload, 1) := by decide +kernel
theorem d_M_score_38 : decode b_M_score 38 = .ok (.iadd, 1) := by decide +kernel
theorem d_M_score_39 : decode b_M_score 39 = .ok (.istore_n 1, 1) := by decide +kernel
theorem d_M_score_40 : decode b_M_score 40 = .ok (.iinc 2 1, 3) := by decide +kernel
theorem d_M_score_43 : decode b_M_score 43 = .ok (.goto (-25), 3) := by decide +kernel
theorem d_M_score_46 : decode b_M_score 46 = .ok (.iload_n 1, 1) := by decide +kernel
theorem d_M_score_47 : decode b_M_score 47 = .ok (.ireturn, 1) := by decide +kernel
theorem d_M_letter_0 : decode b_M_letter 0 = .ok (.aload_n 0, 1) := by decide +kernel
theorem d_M_letter_1 : decode b_M_letter 1 = .ok (.iconst 0, 1) := by decide +kernel
theorem d_M_letter_2 : decode b_M_letter 2 = .ok (.putfield 75, 3) := by decide +kernel
theorem d_M_letter_5 : decode b_M_letter 5 = .ok (.aload_n 0, 1) := by decide +kernel
theorem d_M_letter_6 : decode b_M_letter 6 = .ok (.iload_n 1, 1) := by decide +kernel
theorem d_M_letter_7 : decode b_M_letter 7 = .ok (.iload_n 2, 1) := by decide +kernel
theorem d_M_letter_8 : decode b_M_letter 8 = .ok (.invokevirtual 78, 3) := by decide +kernel
theorem d_M_letter_11 : decode b_M_letter 11 = .ok (.ifCond .ne 5, 3) := by decide +kernel
theorem d_M_letter_14 : decode b_M_letter 14 = .ok (.iconst (-1), 1) := by decide +kernel
theorem d_M_letter_15 : decode b_M_letter 15 = .ok (.ireturn, 1) := by decide +kernel
theorem d_M_letter_16 : decode b_M_letter 16 = .ok (.iconst 0, 1) := by decide +kernel
theorem d_M_letter_17 : decode b_M_letter 17 = .ok (.istore_n 3, 1) := by decide +kernel
theorem d_M_letter_18 : decode b_M_letter 18 = .ok (.iload_n 3, 1) := by decide +kernel
theorem d_M_letter_19 : decode b_M_letter 19 = .ok (.aload_n 0, 1) := by decide +kernel
theorem d_M_letter_20 : decode b_M_letter 20 = .ok (.getfield 82, 3) := by decide +kernel
theorem d_M_letter_23 : decode b_M_letter 23 = .ok (.if_icmp .ge 72, 3) := by decide +kernel
theorem d_M_letter_26 : decode b_M_letter 26 = .ok (.aload_n 0, 1) := by decide +kernel
theorem d_M_letter_27 : decode b_M_letter 27 = .ok (.getfield 91, 3) := by decide +kernel
theorem d_M_letter_30 : decode b_M_letter 30 = .ok (.ifCond .eq 65, 3) := by decide +kernel
theorem d_M_letter_33 : decode b_M_letter 33 = .ok (.iconst 0, 1) := by decide +kernel
theorem d_M_letter_34 : decode b_M_letter 34 = .ok (.istore 4, 2) := by decide +kernel
theorem d_M_letter_36 : decode b_M_letter 36 = .ok (.iload 4, 2) := by decide +kernel
theorem d_M_letter_38 : decode b_M_letter 38 = .ok (.aload_n 0, 1) := by decide +kernel
theorem d_M_letter_39 : decode b_M_letter 39 = .ok (.getfield 32, 3) := by decide +kernel
theorem d_M_letter_42 : decode b_M_letter 42 = .ok (.iload_n 3, 1) := by decide +kernel
theorem d_M_letter_43 : decode b_M_letter 43 = .ok (.iaload, 1) := by decide +kernel
theorem d_M_letter_44 : decode b_M_letter 44 = .ok (.if_icmp .ge 45, 3) := by decide +kernel
theorem d_M_letter_47 : decode b_M_letter 47 = .ok (.aload_n 0, 1) := by decide +kernel
theorem d_M_letter_48 : decode b_M_letter 48 = .ok (.iload_n 3, 1) := by decide +kernel
theorem d_M_letter_49 : decode b_M_letter 49 = .ok (.iload 4, 2) := by decide +kernel
theorem d_M_letter_51 : decode b_M_letter 51 = .ok (.invokevirtual 115, 3) := by decide +kernel
theorem d_M_letter_54 : decode b_M_letter 54 = .ok (.aload_n 0, 1) := by decide +kernel
theorem d_M_letter_55 : decode b_M_letter 55 = .ok (.getfield 65, 3) := by decide +kernel
theorem d_M_letter_58 : decode b_M_letter 58 = .ok (.iload_n 2, 1) := by decide +kernel
theorem d_M_letter_59 : decode b_M_letter 59 = .ok (.imul, 1) := by decide +kernel
theorem d_M_letter_60 : decode b_M_letter 60 = .ok (.iload_n 1, 1) := by decide +kernel
theorem d_M_letter_61 : decode b_M_letter 61 = .ok (.iadd, 1) := by decide +kernel
theorem d_M_letter_62 : decode b_M_letter 62 = .ok (.if_icmp .ne 21, 3) := by decide +kernel
theorem d_M_letter_65 : decode b_M_letter 65 = .ok (.aload_n 0, 1) := by decide +kernel
theorem d_M_letter_66 : decode b_M_letter 66 = .ok (.getfield 23, 3) := by decide +kernel
theorem d_M_letter_69 : decode b_M_letter 69 = .ok (.bipush 6, 2) := by decide +kernel
theorem d_M_letter_71 : decode b_M_letter 71 = .ok (.aload_n 0, 1) := by decide +kernel
theorem d_M_letter_72 : decode b_M_letter 72 = .ok (.getfield 44, 3) := by decide +kernel
theorem d_M_letter_75 : decode b_M_letter 75 = .ok (.iload_n 3, 1) := by decide +kernel
theorem d_M_letter_76 : decode b_M_letter 76 = .ok (.iaload, 1) := by decide +kernel
theorem d_M_letter_77 : decode b_M_letter 77 = .ok (.imul, 1) := by decide +kernel
theorem d_M_letter_78 : decode b_M_letter 78 = .ok (.iload 4, 2) := by decide +kernel
theorem d_M_letter_80 : decode b_M_letter 80 = .ok (.iadd, 1) := by decide +kernel
theorem d_M_letter_81 : decode b_M_letter 81 = .ok (.iaload, 1) := by decide +kernel
theorem d_M_letter_82 : decode b_M_letter 82 = .ok (.ireturn, 1) := by decide +kernel
theorem d_M_letter_83 : decode b_M_letter 83 = .ok (.iinc 4 1, 3) := by decide +kernel
theorem d_M_letter_86 : decode b_M_letter 86 = .ok (.goto (-50), 3) := by decide +kernel
theorem d_M_letter_89 : decode b_M_letter 89 = .ok (.iinc 3 1, 3) := by decide +kernel
theorem d_M_letter_92 : decode b_M_letter 92 = .ok (.goto (-74), 3) := by decide +kernel
theorem d_M_letter_95 : decode b_M_letter 95 = .ok (.iconst 0, 1) := by decide +kernel
theorem d_M_letter_96 : decode b_M_letter 96 = .ok (.ireturn, 1) := by decide +kernel
theorem d_M_check_0 : decode b_M_check 0 = .ok (.aload_n 0, 1) := by decide +kernel
theorem d_M_check_1 : decode b_M_check 1 = .ok (.iconst 0, 1) := by decide +kernel
theorem d_M_check_2 : decode b_M_check 2 = .ok (.putfield 75, 3) := by decide +kernel
theorem d_M_check_5 : decode b_M_check 5 = .ok (.aload_n 0, 1) := by decide +kernel
theorem d_M_check_6 : decode b_M_check 6 = .ok (.getfield 91, 3) := by decide +kernel
theorem d_M_check_9 : decode b_M_check 9 = .ok (.ifCond .ne 5, 3) := by decide +kernel
theorem d_M_check_12 : decode b_M_check 12 = .ok (.iconst (-1), 1) := by decide +kernel
theorem d_M_check_13 : decode b_M_check 13 = .ok (.ireturn, 1) := by decide +kernel
theorem d_M_check_14 : decode b_M_check 14 = .ok (.iconst 0, 1) := by decide +kernel
theorem d_M_check_15 : decode b_M_check 15 = .ok (.istore_n 1, 1) := by decide +kernel
theorem d_M_check_16 : decode b_M_check 16 = .ok (.iload_n 1, 1) := by decide +kernel
theorem d_M_check_17 : decode b_M_check 17 = .ok (.aload_n 0, 1) := by decide +kernel
theorem d_M_check_18 : decode b_M_check 18 = .ok (.getfield 82, 3) := by decide +kernel
theorem d_M_check_21 : decode b_M_check 21 = .ok (.if_icmp .ge 96, 3) := by decide +kernel
theorem d_M_check_24 : decode b_M_check 24 = .ok (.aload_n 0, 1) := by decide +kernel
theorem d_M_check_25 : decode b_M_check 25 = .ok (.getfield 38, 3) := by decide +kernel
theorem d_M_check_28 : decode b_M_check 28 = .ok (.iload_n 1, 1) := by decide +kernel
theorem d_M_check_29 : decode b_M_check 29 = .ok (.iaload, 1) := by decide +kernel
theorem d_M_check_30 : decode b_M_check 30 = .ok (.iconst (-1), 1) := by decide +kernel
theorem d_M_check_31 : decode b_M_check 31 = .ok (.if_icmp .eq 22, 3) := by decide +kernel
theorem d_M_check_34 : decode b_M_check 34 = .ok (.aload_n 0, 1) := by decide +kernel
theorem d_M_check_35 : decode b_M_check 35 = .ok (.getfield 38, 3) := by decide +kernel
theorem d_M_check_38 : decode b_M_check 38 = .ok (.iload_n 1, 1) := by decide +kernel
theorem d_M_check_39 : decode b_M_check 39 = .ok (.iaload, 1) := by decide +kernel
theorem d_M_check_40 : decode b_M_check 40 = .ok (.aload_n 0, 1) := by decide +kernel
theorem d_M_check_41 : decode b_M_check 41 = .ok (.getfield 44, 3) := by decide +kernel
theorem d_M_check_44 : decode b_M_check 44 = .ok (.iload_n 1, 1) := by decide +kernel
theorem d_M_check_45 : decode b_M_check 45 = .ok (.iaload, 1) := by decide +kernel
theorem d_M_check_46 : decode b_M_check 46 = .ok (.if_icmp .eq 7, 3) := by decide +kernel
theorem d_M_check_49 : decode b_M_check 49 = .ok (.iconst 1, 1) := by decide +kernel
theorem d_M_check_50 : decode b_M_check 50 = .ok (.iload_n 1, 1) := by decide +kernel
theorem d_M_check_51 : decode b_M_check 51 = .ok (.iadd, 1) := by decide +kernel
theorem d_M_check_52 : decode b_M_check 52 = .ok (.ireturn, 1) := by decide +kernel
theorem d_M_check_53 : decode b_M_check 53 = .ok (.iconst 0, 1) := by decide +kernel
theorem d_M_check_54 : decode b_M_check 54 = .ok (.istore_n 2, 1) := by decide +kernel
theorem d_M_check_55 : decode b_M_check 55 = .ok (.iload_n 2, 1) := by decide +kernel
theorem d_M_check_56 : decode b_M_check 56 = .ok (.aload_n 0, 1) := by decide +kernel
theorem d_M_check_57 : decode b_M_check 57 = .ok (.getfield 32, 3) := by decide +kernel
theorem d_M_check_60 : decode b_M_check 60 = .ok (.iload_n 1, 1) := by decide +kernel
theorem d_M_check_61 : decode b_M_check 61 = .ok (.iaload, 1) := by decide +kernel
theorem d_M_check_62 : decode b_M_check 62 = .ok (.if_icmp .ge 49, 3) := by decide +kernel
theorem d_M_check_65 : decode b_M_check 65 = .ok (.aload_n 0, 1) := by decide +kernel
theorem d_M_check_66 : decode b_M_check 66 = .ok (.getfield 13, 3) := by decide +kernel
theorem d_M_check_69 : decode b_M_check 69 = .ok (.aload_n 0, 1) := by decide +kernel
theorem d_M_check_70 : decode b_M_check 70 = .ok (.iload_n 1, 1) := by decide +kernel
theorem d_M_check_71 : decode b_M_check 71 = .ok (.iload_n 2, 1) := by decide +kernel
theorem d_M_check_72 : decode b_M_check 72 = .ok (.invokevirtual 115, 3) := by decide +kernel
theorem d_M_check_75 : decode b_M_check 75 = .ok (.iaload, 1) := by decide +kernel
theorem d_M_check_76 : decode b_M_check 76 = .ok (.istore_n 3, 1) := by decide +kernel
theorem d_M_check_77 : decode b_M_check 77 = .ok (.iload_n 3, 1) := by decide +kernel
theorem d_M_check_78 : decode b_M_check 78 = .ok (.ifCond .eq 27, 3) := by decide +kernel
theorem d_M_check_81 : decode b_M_check 81 = .ok (.iload_n 3, 1) := by decide +kernel
theorem d_M_check_82 : decode b_M_check 82 = .ok (.aload_n 0, 1) := by decide +kernel
theorem d_M_check_83 : decode b_M_check 83 = .ok (.getfield 23, 3) := by decide +kernel
theorem d_M_check_86 : decode b_M_check 86 = .ok (.bipush 6, 2) := by decide +kernel
theorem d_M_check_88 : decode b_M_check 88 = .ok (.aload_n 0, 1) := by decide +kernel
theorem d_M_check_89 : decode b_M_check 89 = .ok (.getfield 44, 3) := by decide +kernel
theorem d_M_check_92 : decode b_M_check 92 = .ok (.iload_n 1, 1) := by decide +kernel
theorem d_M_check_93 : decode b_M_check 93 = .ok (.iaload, 1) := by decide +kernel
theorem d_M_check_94 : decode b_M_check 94 = .ok (.imul, 1) := by decide +kernel
theorem d_M_check_95 : decode b_M_check 95 = .ok (.iload_n 2, 1) := by decide +kernel
theorem d_M_check_96 : decode b_M_check 96 = .ok (.iadd, 1) := by decide +kernel
theorem d_M_check_97 : decode b_M_check 97 = .ok (.iaload, 1) := by decide +kernel
theorem d_M_check_98 : decode b_M_check 98 = .ok (.if_icmp .eq 7, 3) := by decide +kernel
theorem d_M_check_101 : decode b_M_check 101 = .ok (.iconst 1, 1) := by decide +kernel
theorem d_M_check_102 : decode b_M_check 102 = .ok (.iload_n 1, 1) := by decide +kernel
theorem d_M_check_103 : decode b_M_check 103 = .ok (.iadd, 1) := by decide +kernel
theorem d_M_check_104 : decode b_M_check 104 = .ok (.ireturn, 1) := by decide +kernel
theorem d_M_check_105 : decode b_M_check 105 = .ok (.iinc 2 1, 3) := by decide +kernel
theorem d_M_check_108 : decode b_M_check 108 = .ok (.goto (-53), 3) := by decide +kernel
theorem d_M_check_111 : decode b_M_check 111 = .ok (.iinc 1 1, 3) := by decide +kernel
theorem d_M_check_114 : decode b_M_check 114 = .ok (.goto (-98), 3) := by decide +kernel
theorem d_M_check_117 : decode b_M_check 117 = .ok (.iconst 0, 1) := by decide +kernel
theorem d_M_check_118 : decode b_M_check 118 = .ok (.ireturn, 1) := by decide +kernel
theorem d_M_alike_0 : decode b_M_alike 0 = .ok (.aload_n 0, 1) := by decide +kernel
theorem d_M_alike_1 : decode b_M_alike 1 = .ok (.iconst 0, 1) := by decide +kernel
theorem d_M_alike_2 : decode b_M_alike 2 = .ok (.putfield 75, 3) := by decide +kernel
theorem d_M_alike_5 : decode b_M_alike 5 = .ok (.iload_n 1, 1) := by decide +kernel
theorem d_M_alike_6 : decode b_M_alike 6 = .ok (.ifCond .lt 24, 3) := by decide +kernel
theorem d_M_alike_9 : decode b_M_alike 9 = .ok (.iload_n 1, 1) := by decide +kernel
theorem d_M_alike_10 : decode b_M_alike 10 = .ok (.iconst 3, 1) := by decide +kernel
theorem d_M_alike_11 : decode b_M_alike 11 = .ok (.if_icmp .gt 19, 3) := by decide +kernel
theorem d_M_alike_14 : decode b_M_alike 14 = .ok (.iload_n 1, 1) := by decide +kernel
theorem d_M_alike_15 : decode b_M_alike 15 = .ok (.iconst 3, 1) := by decide +kernel
theorem d_M_alike_16 : decode b_M_alike 16 = .ok (.if_icmp .ne 16, 3) := by decide +kernel
theorem d_M_alike_19 : decode b_M_alike 19 = .ok (.aload_n 0, 1) := by decide +kernel
theorem d_M_alike_20 : decode b_M_alike 20 = .ok (.getfield 65, 3) := by decide +kernel
theorem d_M_alike_23 : decode b_M_alike 23 = .ok (.aload_n 0, 1) := by decide +kernel
theorem d_M_alike_24 : decode b_M_alike 24 = .ok (.getfield 69, 3) := by decide +kernel
theorem d_M_alike_27 : decode b_M_alike 27 = .ok (.if_icmp .eq 5, 3) := by decide +kernel
theorem d_M_alike_30 : decode b_M_alike 30 = .ok (.iconst 0, 1) := by decide +kernel
theorem d_M_alike_31 : decode b_M_alike 31 = .ok (.ireturn, 1) := by decide +kernel
theorem d_M_alike_32 : decode b_M_alike 32 = .ok (.iconst 0, 1) := by decide +kernel
theorem d_M_alike_33 : decode b_M_alike 33 = .ok (.istore_n 2, 1) := by decide +kernel
theorem d_M_alike_34 : decode b_M_alike 34 = .ok (.iload_n 2, 1) := by decide +kernel
theorem d_M_alike_35 : decode b_M_alike 35 = .ok (.aload_n 0, 1) := by decide +kernel
theorem d_M_alike_36 : decode b_M_alike 36 = .ok (.getfield 69, 3) := by decide +kernel
theorem d_M_alike_39 : decode b_M_alike 39 = .ok (.if_icmp .ge 114, 3) := by decide +kernel
theorem d_M_alike_42 : decode b_M_alike 42 = .ok (.iconst 0, 1) := by decide +kernel
theorem d_M_alike_43 : decode b_M_alike 43 = .ok (.istore_n 3, 1) := by decide +kernel
theorem d_M_alike_44 : decode b_M_alike 44 = .ok (.iload_n 3, 1) := by decide +kernel
theorem d_M_alike_45 : decode b_M_alike 45 = .ok (.aload_n 0, 1) := by decide +kernel
theorem d_M_alike_46 : decode b_M_alike 46 = .ok (.getfield 65, 3) := by decide +kernel
theorem d_M_alike_49 : decode b_M_alike 49 = .ok (.if_icmp .ge 98, 3) := by decide +kernel
theorem d_M_alike_52 : decode b_M_alike 52 = .ok (.iload_n 1, 1) := by decide +kernel
theorem d_M_alike_53 : decode b_M_alike 53 = .ok (.iconst 3, 1) := by decide +kernel
theorem d_M_alike_54 : decode b_M_alike 54 = .ok (.if_icmp .ne 7, 3) := by decide +kernel
theorem d_M_alike_57 : decode b_M_alike 57 = .ok (.iload_n 2, 1) := by decide +kernel
theorem d_M_alike_58 : decode b_M_alike 58 = .ok (.goto 20, 3) := by decide +kernel
theorem d_M_alike_61 : decode b_M_alike 61 = .ok (.iload_n 1, 1) := by decide +kernel
theorem d_M_alike_62 : decode b_M_alike 62 = .ok (.iconst 2, 1) := by decide +kernel
theorem d_M_alike_63 : decode b_M_alike 63 = .ok (.if_icmp .ne 7, 3) := by decide +kernel
theorem d_M_alike_66 : decode b_M_alike 66 = .ok (.iload_n 3, 1) := by decide +kernel
theorem d_M_alike_67 : decode b_M_alike 67 = .ok (.goto 11, 3) := by decide +kernel
theorem d_M_alike_70 : decode b_M_alike 70 = .ok (.aload_n 0, 1) := by decide +kernel
theorem d_M_alike_71 : decode b_M_alike 71 = .ok (.getfield 65, 3) := by decide +kernel
theorem d_M_alike_74 : decode b_M_alike 74 = .ok (.iconst 1, 1) := by decide +kernel
theorem d_M_alike_75 : decode b_M_alike 75 = .ok (.isub, 1) := by decide +kernel
theorem d_M_alike_76 : decode b_M_alike 76 = .ok (.iload_n 3, 1) := by decide +kernel
theorem d_M_alike_77 : decode b_M_alike 77 = .ok (.isub, 1) := by decide +kernel
theorem d_M_alike_78 : decode b_M_alike 78 = .ok (.istore 4, 2) := by decide +kernel
theorem d_M_alike_80 : decode b_M_alike 80 = .ok (.iload_n 1, 1) := by decide +kernel
theorem d_M_alike_81 : decode b_M_alike 81 = .ok (.iconst 3, 1) := by decide +kernel
theorem d_M_alike_82 : decode b_M_alike 82 = .ok (.if_icmp .ne 7, 3) := by decide +kernel
theorem d_M_alike_85 : decode b_M_alike 85 = .ok (.iload_n 3, 1) := by decide +kernel
theorem d_M_alike_86 : decode b_M_alike 86 = .ok (.goto 20, 3) := by decide +kernel
theorem d_M_alike_89 : decode b_M_alike 89 = .ok (.iload_n 1, 1) := by decide +kernel
theorem d_M_alike_90 : decode b_M_alike 90 = .ok (.iconst 1, 1) := by decide +kernel
theorem d_M_alike_91 : decode b_M_alike 91 = .ok (.if_icmp .ne 7, 3) := by decide +kernel
theorem d_M_alike_94 : decode b_M_alike 94 = .ok (.iload_n 2, 1) := by decide +kernel
theorem d_M_alike_95 : decode b_M_alike 95 = .ok (.goto 11, 3) := by decide +kernel
theorem d_M_alike_98 : decode b_M_alike 98 = .ok (.aload_n 0, 1) := by decide +kernel
theorem d_M_alike_99 : decode b_M_alike 99 = .ok (.getfield 69, 3) := by decide +kernel
theorem d_M_alike_102 : decode b_M_alike 102 = .ok (.iconst 1, 1) := by decide +kernel
theorem d_M_alike_103 : decode b_M_alike 103 = .ok (.isub, 1) := by decide +kernel
theorem d_M_alike_104 : decode b_M_alike 104 = .ok (.iload_n 2, 1) := by decide +kernel
theorem d_M_alike_105 : decode b_M_alike 105 = .ok (.isub, 1) := by decide +kernel
theorem d_M_alike_106 : decode b_M_alike 106 = .ok (.istore 5, 2) := by decide +kernel
theorem d_M_alike_108 : decode b_M_alike 108 = .ok (.aload_n 0, 1) := by decide +kernel
theorem d_M_alike_109 : decode b_M_alike 109 = .ok (.getfield 7, 3) := by decide +kernel
theorem d_M_alike_112 : decode b_M_alike 112 = .ok (.aload_n 0, 1) := by decide +kernel
theorem d_M_alike_113 : decode b_M_alike 113 = .ok (.getfield 65, 3) := by decide +kernel
theorem d_M_alike_116 : decode b_M_alike 116 = .ok (.iload_n 2, 1) := by decide +kernel
theorem d_M_alike_117 : decode b_M_alike 117 = .ok (.imul, 1) := by decide +kernel
theorem d_M_alike_118 : decode b_M_alike 118 = .ok (.iload_n 3, 1) := by decide +kernel
theorem d_M_alike_119 : decode b_M_alike 119 = .ok (.iadd, 1) := by decide +kernel
theorem d_M_alike_120 : decode b_M_alike 120 = .ok (.baload, 1) := by decide +kernel
theorem d_M_alike_121 : decode b_M_alike 121 = .ok (.aload_n 0, 1) := by decide +kernel
theorem d_M_alike_122 : decode b_M_alike 122 = .ok (.getfield 7, 3) := by decide +kernel
theorem d_M_alike_125 : decode b_M_alike 125 = .ok (.aload_n 0, 1) := by decide +kernel
theorem d_M_alike_126 : decode b_M_alike 126 = .ok (.getfield 65, 3) := by decide +kernel
theorem d_M_alike_129 : decode b_M_alike 129 = .ok (.iload 5, 2) := by decide +kernel
theorem d_M_alike_131 : decode b_M_alike 131 = .ok (.imul, 1) := by decide +kernel
theorem d_M_alike_132 : decode b_M_alike 132 = .ok (.iload 4, 2) := by decide +kernel
theorem d_M_alike_134 : decode b_M_alike 134 = .ok (.iadd, 1) := by decide +kernel
theorem d_M_alike_135 : decode b_M_alike 135 = .ok (.baload, 1) := by decide +kernel
theorem d_M_alike_136 : decode b_M_alike 136 = .ok (.if_icmp .eq 5, 3) := by decide +kernel
theorem d_M_alike_139 : decode b_M_alike 139 = .ok (.iconst 0, 1) := by decide +kernel
theorem d_M_alike_140 : decode b_M_alike 140 = .ok (.ireturn, 1) := by decide +kernel
theorem d_M_alike_141 : decode b_M_alike 141 = .ok (.iinc 3 1, 3) := by decide +kernel
theorem d_M_alike_144 : decode b_M_alike 144 = .ok (.goto (-100), 3) := by decide +kernel
theorem d_M_alike_147 : decode b_M_alike 147 = .ok (.iinc 2 1, 3) := by decide +kernel
theorem d_M_alike_150 : decode b_M_alike 150 = .ok (.goto (-116), 3) := by decide +kernel
theorem d_M_alike_153 : decode b_M_alike 153 = .ok (.iconst 1, 1) := by decide +kernel
theorem d_M_alike_154 : decode b_M_alike 154 = .ok (.ireturn, 1) := by decide +kernel
theorem d_M_isSeen_0 : decode b_M_isSeen 0 = .ok (.aload_n 0, 1) := by decide +kernel
theorem d_M_isSeen_1 : decode b_M_isSeen 1 = .ok (.iload_n 1, 1) := by decide +kernel
theorem d_M_isSeen_2 : decode b_M_isSeen 2 = .ok (.iload_n 2, 1) := by decide +kernel
theorem d_M_isSeen_3 : decode b_M_isSeen 3 = .ok (.invokevirtual 78, 3) := by decide +kernel
theorem d_M_isSeen_6 : decode b_M_isSeen 6 = .ok (.ifCond .eq 23, 3) := by decide +kernel
theorem d_M_isSeen_9 : decode b_M_isSeen 9 = .ok (.aload_n 0, 1) := by decide +kernel
theorem d_M_isSeen_10 : decode b_M_isSeen 10 = .ok (.getfield 62, 3) := by decide +kernel
theorem d_M_isSeen_13 : decode b_M_isSeen 13 = .ok (.aload_n 0, 1) := by decide +kernel
theorem d_M_isSeen_14 : decode b_M_isSeen 14 = .ok (.getfield 65, 3) := by decide +kernel
theorem d_M_isSeen_17 : decode b_M_isSeen 17 = .ok (.iload_n 2, 1) := by decide +kernel
theorem d_M_isSeen_18 : decode b_M_isSeen 18 = .ok (.imul, 1) := by decide +kernel
theorem d_M_isSeen_19 : decode b_M_isSeen 19 = .ok (.iload_n 1, 1) := by decide +kernel
theorem d_M_isSeen_20 : decode b_M_isSeen 20 = .ok (.iadd, 1) := by decide +kernel
theorem d_M_isSeen_21 : decode b_M_isSeen 21 = .ok (.baload, 1) := by decide +kernel
theorem d_M_isSeen_22 : decode b_M_isSeen 22 = .ok (.ifCond .eq 7, 3) := by decide +kernel
theorem d_M_isSeen_25 : decode b_M_isSeen 25 = .ok (.iconst 1, 1) := by decide +kernel
theorem d_M_isSeen_26 : decode b_M_isSeen 26 = .ok (.goto 4, 3) := by decide +kernel
theorem d_M_isSeen_29 : decode b_M_isSeen 29 = .ok (.iconst 0, 1) := by decide +kernel
theorem d_M_isSeen_30 : decode b_M_isSeen 30 = .ok (.ireturn, 1) := by decide +kernel
theorem d_M_parts_0 : decode b_M_parts 0 = .ok (.aload_n 0, 1) := by decide +kernel
theorem d_M_parts_1 : decode b_M_parts 1 = .ok (.iconst 0, 1) := by decide +kernel
theorem d_M_parts_2 : decode b_M_parts 2 = .ok (.putfield 75, 3) := by decide +kernel
theorem d_M_parts_5 : decode b_M_parts 5 = .ok (.iconst 0, 1) := by decide +kernel
theorem d_M_parts_6 : decode b_M_parts 6 = .ok (.istore_n 1, 1) := by decide +kernel
theorem d_M_parts_7 : decode b_M_parts 7 = .ok (.iload_n 1, 1) := by decide +kernel
theorem d_M_parts_8 : decode b_M_parts 8 = .ok (.bipush 36, 2) := by decide +kernel
theorem d_M_parts_10 : decode b_M_parts 10 = .ok (.if_icmp .ge 16, 3) := by decide +kernel
theorem d_M_parts_13 : decode b_M_parts 13 = .ok (.aload_n 0, 1) := by decide +kernel
theorem d_M_parts_14 : decode b_M_parts 14 = .ok (.getfield 62, 3) := by decide +kernel
theorem d_M_parts_17 : decode b_M_parts 17 = .ok (.iload_n 1, 1) := by decide +kernel
theorem d_M_parts_18 : decode b_M_parts 18 = .ok (.iconst 0, 1) := by decide +kernel
theorem d_M_parts_19 : decode b_M_parts 19 = .ok (.bastore, 1) := by decide +kernel
theorem d_M_parts_20 : decode b_M_parts 20 = .ok (.iinc 1 1, 3) := by decide +kernel
theorem d_M_parts_23 : decode b_M_parts 23 = .ok (.goto (-16), 3) := by decide +kernel
theorem d_M_parts_26 : decode b_M_parts 26 = .ok (.iconst 0, 1) := by decide +kernel
theorem d_M_parts_27 : decode b_M_parts 27 = .ok (.istore_n 1, 1) := by decide +kernel
theorem d_M_parts_28 : decode b_M_parts 28 = .ok (.iconst 0, 1) := by decide +kernel
theorem d_M_parts_29 : decode b_M_parts 29 = .ok (.istore_n 2, 1) := by decide +kernel
theorem d_M_parts_30 : decode b_M_parts 30 = .ok (.iload_n 2, 1) := by decide +kernel
theorem d_M_parts_31 : decode b_M_parts 31 = .ok (.aload_n 0, 1) := by decide +kernel
theorem d_M_parts_32 : decode b_M_parts 32 = .ok (.getfield 65, 3) := by decide +kernel
theorem d_M_parts_35 : decode b_M_parts 35 = .ok (.aload_n 0, 1) := by decide +kernel
theorem d_M_parts_36 : decode b_M_parts 36 = .ok (.getfield 69, 3) := by decide +kernel
theorem d_M_parts_39 : decode b_M_parts 39 = .ok (.imul, 1) := by decide +kernel
theorem d_M_parts_40 : decode b_M_parts 40 = .ok (.if_icmp .ge 198, 3) := by decide +kernel
theorem d_M_parts_43 : decode b_M_parts 43 = .ok (.aload_n 0, 1) := by decide +kernel
theorem d_M_parts_44 : decode b_M_parts 44 = .ok (.getfield 7, 3) := by decide +kernel
theorem d_M_parts_47 : decode b_M_parts 47 = .ok (.iload_n 2, 1) := by decide +kernel
theorem d_M_parts_48 : decode b_M_parts 48 = .ok (.baload, 1) := by decide +kernel
theorem d_M_parts_49 : decode b_M_parts 49 = .ok (.ifCond .ne 183, 3) := by decide +kernel
theorem d_M_parts_52 : decode b_M_parts 52 = .ok (.aload_n 0, 1) := by decide +kernel
theorem d_M_parts_53 : decode b_M_parts 53 = .ok (.getfield 62, 3) := by decide +kernel
theorem d_M_parts_56 : decode b_M_parts 56 = .ok (.iload_n 2, 1) := by decide +kernel
theorem d_M_parts_57 : decode b_M_parts 57 = .ok (.baload, 1) := by decide +kernel
theorem d_M_parts_58 : decode b_M_parts 58 = .ok (.ifCond .eq 6, 3) := by decide +kernel
theorem d_M_parts_61 : decode b_M_parts 61 = .ok (.goto 171, 3) := by decide +kernel
theorem d_M_parts_64 : decode b_M_parts 64 = .ok (.iinc 1 1, 3) := by decide +kernel
theorem d_M_parts_67 : decode b_M_parts 67 = .ok (.aload_n 0, 1) := by decide +kernel
theorem d_M_parts_68 : decode b_M_parts 68 = .ok (.getfield 62, 3) := by decide +kernel
theorem d_M_parts_71 : decode b_M_parts 71 = .ok (.iload_n 2, 1) := by decide +kernel
theorem d_M_parts_72 : decode b_M_parts 72 = .ok (.iconst 1, 1) := by decide +kernel
theorem d_M_parts_73 : decode b_M_parts 73 = .ok (.bastore, 1) := by decide +kernel
theorem d_M_parts_74 : decode b_M_parts 74 = .ok (.iconst 1, 1) := by decide +kernel
theorem d_M_parts_75 : decode b_M_parts 75 = .ok (.istore_n 3, 1) := by decide +kernel
theorem d_M_parts_76 : decode b_M_parts 76 = .ok (.iload_n 3, 1) := by decide +kernel
theorem d_M_parts_77 : decode b_M_parts 77 = .ok (.ifCond .eq 155, 3) := by decide +kernel
theorem d_M_parts_80 : decode b_M_parts 80 = .ok (.iconst 0, 1) := by decide +kernel
theorem d_M_parts_81 : decode b_M_parts 81 = .ok (.istore_n 3, 1) := by decide +kernel
theorem d_M_parts_82 : decode b_M_parts 82 = .ok (.iconst 0, 1) := by decide +kernel
theorem d_M_parts_83 : decode b_M_parts 83 = .ok (.istore 4, 2) := by decide +kernel
theorem d_M_parts_85 : decode b_M_parts 85 = .ok (.iload 4, 2) := by decide +kernel
theorem d_M_parts_87 : decode b_M_parts 87 = .ok (.aload_n 0, 1) := by decide +kernel
theorem d_M_parts_88 : decode b_M_parts 88 = .ok (.getfield 65, 3) := by decide +kernel
end
section
theorem d_M_parts_91 : decode b_M_parts 91 = .ok (.aload_n 0, 1) := by decide +kernel
theorem d_M_parts_92 : decode b_M_parts 92 = .ok (.getfield 69, 3) := by decide +kernel
theorem d_M_parts_95 : decode b_M_parts 95 = .ok (.imul, 1) := by decide +kernel
theorem d_M_parts_96 : decode b_M_parts 96 = .ok (.if_icmp .ge 133, 3) := by decide +kernel
theorem d_M_parts_99 : decode b_M_parts 99 = .ok (.aload_n 0, 1) := by decide +kernel
theorem d_M_parts_100 : decode b_M_parts 100 = .ok (.getfield 7, 3) := by decide +kernel
theorem d_M_parts_103 : decode b_M_parts 103 = .ok (.iload 4, 2) := by decide +kernel
theorem d_M_parts_105 : decode b_M_parts 105 = .ok (.baload, 1) := by decide +kernel
theorem d_M_parts_106 : decode b_M_parts 106 = .ok (.ifCond .ne 117, 3) := by decide +kernel
theorem d_M_parts_109 : decode b_M_parts 109 = .ok (.aload_n 0, 1) := by decide +kernel
theorem d_M_parts_110 : decode b_M_parts 110 = .ok (.getfield 62, 3) := by decide +kernel
theorem d_M_parts_113 : decode b_M_parts 113 = .ok (.iload 4, 2) := by decide +kernel
theorem d_M_parts_115 : decode b_M_parts 115 = .ok (.baload, 1) := by decide +kernel
theorem d_M_parts_116 : decode b_M_parts 116 = .ok (.ifCond .eq 6, 3) := by decide +kernel
theorem d_M_parts_119 : decode b_M_parts 119 = .ok (.goto 104, 3) := by decide +kernel
theorem d_M_parts_122 : decode b_M_parts 122 = .ok (.iload 4, 2) := by decide +kernel
theorem d_M_parts_124 : decode b_M_parts 124 = .ok (.aload_n 0, 1) := by decide +kernel
theorem d_M_parts_125 : decode b_M_parts 125 = .ok (.getfield 65, 3) := by decide +kernel
theorem d_M_parts_128 : decode b_M_parts 128 = .ok (.irem, 1) := by decide +kernel
theorem d_M_parts_129 : decode b_M_parts 129 = .ok (.istore 5, 2) := by decide +kernel
theorem d_M_parts_131 : decode b_M_parts 131 = .ok (.iload 4, 2) := by decide +kernel
theorem d_M_parts_133 : decode b_M_parts 133 = .ok (.aload_n 0, 1) := by decide +kernel
theorem d_M_parts_134 : decode b_M_parts 134 = .ok (.getfield 65, 3) := by decide +kernel
theorem d_M_parts_137 : decode b_M_parts 137 = .ok (.idiv, 1) := by decide +kernel
theorem d_M_parts_138 : decode b_M_parts 138 = .ok (.istore 6, 2) := by decide +kernel
theorem d_M_parts_140 : decode b_M_parts 140 = .ok (.aload_n 0, 1) := by decide +kernel
theorem d_M_parts_141 : decode b_M_parts 141 = .ok (.iload 5, 2) := by decide +kernel
theorem d_M_parts_143 : decode b_M_parts 143 = .ok (.iconst 1, 1) := by decide +kernel
theorem d_M_parts_144 : decode b_M_parts 144 = .ok (.isub, 1) := by decide +kernel
theorem d_M_parts_145 : decode b_M_parts 145 = .ok (.iload 6, 2) := by decide +kernel
theorem d_M_parts_147 : decode b_M_parts 147 = .ok (.invokevirtual 154, 3) := by decide +kernel
theorem d_M_parts_150 : decode b_M_parts 150 = .ok (.ifCond .ne 42, 3) := by decide +kernel
theorem d_M_parts_153 : decode b_M_parts 153 = .ok (.aload_n 0, 1) := by decide +kernel
theorem d_M_parts_154 : decode b_M_parts 154 = .ok (.iload 5, 2) := by decide +kernel
theorem d_M_parts_156 : decode b_M_parts 156 = .ok (.iconst 1, 1) := by decide +kernel
theorem d_M_parts_157 : decode b_M_parts 157 = .ok (.iadd, 1) := by decide +kernel
theorem d_M_parts_158 : decode b_M_parts 158 = .ok (.iload 6, 2) := by decide +kernel
theorem d_M_parts_160 : decode b_M_parts 160 = .ok (.invokevirtual 154, 3) := by decide +kernel
theorem d_M_parts_163 : decode b_M_parts 163 = .ok (.ifCond .ne 29, 3) := by decide +kernel
theorem d_M_parts_166 : decode b_M_parts 166 = .ok (.aload_n 0, 1) := by decide +kernel
theorem d_M_parts_167 : decode b_M_parts 167 = .ok (.iload 5, 2) := by decide +kernel
theorem d_M_parts_169 : decode b_M_parts 169 = .ok (.iload 6, 2) := by decide +kernel
theorem d_M_parts_171 : decode b_M_parts 171 = .ok (.iconst 1, 1) := by decide +kernel
theorem d_M_parts_172 : decode b_M_parts 172 = .ok (.isub, 1) := by decide +kernel
theorem d_M_parts_173 : decode b_M_parts 173 = .ok (.invokevirtual 154, 3) := by decide +kernel
theorem d_M_parts_176 : decode b_M_parts 176 = .ok (.ifCond .ne 16, 3) := by decide +kernel
theorem d_M_parts_179 : decode b_M_parts 179 = .ok (.aload_n 0, 1) := by decide +kernel
theorem d_M_parts_180 : decode b_M_parts 180 = .ok (.iload 5, 2) := by decide +kernel
theorem d_M_parts_182 : decode b_M_parts 182 = .ok (.iload 6, 2) := by decide +kernel
theorem d_M_parts_184 : decode b_M_parts 184 = .ok (.iconst 1, 1) := by decide +kernel
theorem d_M_parts_185 : decode b_M_parts 185 = .ok (.iadd, 1) := by decide +kernel
theorem d_M_parts_186 : decode b_M_parts 186 = .ok (.invokevirtual 154, 3) := by decide +kernel
theorem d_M_parts_189 : decode b_M_parts 189 = .ok (.ifCond .eq 7, 3) := by decide +kernel
theorem d_M_parts_192 : decode b_M_parts 192 = .ok (.iconst 1, 1) := by decide +kernel
theorem d_M_parts_193 : decode b_M_parts 193 = .ok (.goto 4, 3) := by decide +kernel
theorem d_M_parts_196 : decode b_M_parts 196 = .ok (.iconst 0, 1) := by decide +kernel
theorem d_M_parts_197 : decode b_M_parts 197 = .ok (.istore 7, 2) := by decide +kernel
theorem d_M_parts_199 : decode b_M_parts 199 = .ok (.aload_n 0, 1) := by decide +kernel
theorem d_M_parts_200 : decode b_M_parts 200 = .ok (.getfield 62, 3) := by decide +kernel
theorem d_M_parts_203 : decode b_M_parts 203 = .ok (.iload 4, 2) := by decide +kernel
theorem d_M_parts_205 : decode b_M_parts 205 = .ok (.iload 7, 2) := by decide +kernel
theorem d_M_parts_207 : decode b_M_parts 207 = .ok (.bastore, 1) := by decide +kernel
theorem d_M_parts_208 : decode b_M_parts 208 = .ok (.iload_n 3, 1) := by decide +kernel
theorem d_M_parts_209 : decode b_M_parts 209 = .ok (.ifCond .ne 8, 3) := by decide +kernel
theorem d_M_parts_212 : decode b_M_parts 212 = .ok (.iload 7, 2) := by decide +kernel
theorem d_M_parts_214 : decode b_M_parts 214 = .ok (.ifCond .eq 7, 3) := by decide +kernel
theorem d_M_parts_217 : decode b_M_parts 217 = .ok (.iconst 1, 1) := by decide +kernel
theorem d_M_parts_218 : decode b_M_parts 218 = .ok (.goto 4, 3) := by decide +kernel
theorem d_M_parts_221 : decode b_M_parts 221 = .ok (.iconst 0, 1) := by decide +kernel
theorem d_M_parts_222 : decode b_M_parts 222 = .ok (.istore_n 3, 1) := by decide +kernel
theorem d_M_parts_223 : decode b_M_parts 223 = .ok (.iinc 4 1, 3) := by decide +kernel
theorem d_M_parts_226 : decode b_M_parts 226 = .ok (.goto (-141), 3) := by decide +kernel
theorem d_M_parts_229 : decode b_M_parts 229 = .ok (.goto (-153), 3) := by decide +kernel
theorem d_M_parts_232 : decode b_M_parts 232 = .ok (.iinc 2 1, 3) := by decide +kernel
theorem d_M_parts_235 : decode b_M_parts 235 = .ok (.goto (-205), 3) := by decide +kernel
theorem d_M_parts_238 : decode b_M_parts 238 = .ok (.iload_n 1, 1) := by decide +kernel
theorem d_M_parts_239 : decode b_M_parts 239 = .ok (.ireturn, 1) := by decide +kernel
end
section
def wp_JL_bitCount (a0 : Int64) (u : zz_St) (post : Int32 → zz_St → Prop) : Prop :=
  ∀ v1 : Int64, v1 = a0 - (((a0.toUInt64 >>> ((1 : Int32).toInt64.toUInt64 &&& Int64.toUInt64 63)).toInt64) &&& 6148914691236517205) → (∀ v2 : Int64, v2 = (v1 &&& 3689348814741910323) + (((v1.toUInt64 >>> ((2 : Int32).toInt64.toUInt64 &&& Int64.toUInt64 63)).toInt64) &&& 3689348814741910323) → (∀ v3 : Int64, v3 = (v2 + ((v2.toUInt64 >>> ((4 : Int32).toInt64.toUInt64 &&& Int64.toUInt64 63)).toInt64)) &&& 1085102592571150095 → (∀ v4 : Int64, v4 = v3 + ((v3.toUInt64 >>> ((8 : Int32).toInt64.toUInt64 &&& Int64.toUInt64 63)).toInt64) → (∀ v5 : Int64, v5 = v4 + ((v4.toUInt64 >>> ((16 : Int32).toInt64.toUInt64 &&& Int64.toUInt64 63)).toInt64) → (∀ v6 : Int64, v6 = v5 + ((v5.toUInt64 >>> ((32 : Int32).toInt64.toUInt64 &&& Int64.toUInt64 63)).toInt64) → (post (v6.toInt32 &&& 127) u))))))
def wp_JA_fillI_GthemeOf_5 (post : zz_St → Prop) (kn5 : Int32 → Int32 → Int32 → zz_St → Prop) (x1 : Int32) (x2 : Int32) (x3 : Int32) (u : zz_St) : Prop :=
  (x3 ≤ x2 → (post u)) ∧ (¬ x3 ≤ x2 → ((vp_in x2 24 ∧ (kn5 x1 (x2 + 1) x3 (ss_a u 5 (upd (sg_a u 5) x2.toNatClampNeg x1))))))
def wp_JA_fillI_GthemeOf_5_f (post : zz_St → Prop) : Nat → Int32 → Int32 → Int32 → zz_St → Prop
  | 0 => fun _ _ _ _ => False
  | n + 1 => wp_JA_fillI_GthemeOf_5 post (wp_JA_fillI_GthemeOf_5_f post n)
def wp_JA_fillI_GthemeOf (a1 : Int32) (u : zz_St) (post : zz_St → Prop) : Prop :=
  ∃ n : Nat, wp_JA_fillI_GthemeOf_5_f post  n a1 0 24 u
def wp_JA_fillI_GslotThrough_5 (post : zz_St → Prop) (kn5 : Int32 → Int32 → Int32 → zz_St → Prop) (x1 : Int32) (x2 : Int32) (x3 : Int32) (u : zz_St) : Prop :=
  (x3 ≤ x2 → (post u)) ∧ (¬ x3 ≤ x2 → ((vp_in x2 72 ∧ (kn5 x1 (x2 + 1) x3 (ss_a u 6 (upd (sg_a u 6) x2.toNatClampNeg x1))))))
def wp_JA_fillI_GslotThrough_5_f (post : zz_St → Prop) : Nat → Int32 → Int32 → Int32 → zz_St → Prop
  | 0 => fun _ _ _ _ => False
  | n + 1 => wp_JA_fillI_GslotThrough_5 post (wp_JA_fillI_GslotThrough_5_f post n)
def wp_JA_fillI_GslotThrough (a1 : Int32) (u : zz_St) (post : zz_St → Prop) : Prop :=
  ∃ n : Nat, wp_JA_fillI_GslotThrough_5_f post  n a1 0 72 u
def wp_JA_fillI_GgivenAt_5 (post : zz_St → Prop) (kn5 : Int32 → Int32 → Int32 → zz_St → Prop) (x1 : Int32) (x2 : Int32) (x3 : Int32) (u : zz_St) : Prop :=
  (x3 ≤ x2 → (post u)) ∧ (¬ x3 ≤ x2 → ((vp_in x2 36 ∧ (kn5 x1 (x2 + 1) x3 (ss_a u 1 (upd (sg_a u 1) x2.toNatClampNeg x1))))))
def wp_JA_fillI_GgivenAt_5_f (post : zz_St → Prop) : Nat → Int32 → Int32 → Int32 → zz_St → Prop
  | 0 => fun _ _ _ _ => False
  | n + 1 => wp_JA_fillI_GgivenAt_5 post (wp_JA_fillI_GgivenAt_5_f post n)
def wp_JA_fillI_GgivenAt (a1 : Int32) (u : zz_St) (post : zz_St → Prop) : Prop :=
  ∃ n : Nat, wp_JA_fillI_GgivenAt_5_f post  n a1 0 36 u
def wp_JA_fillJ_LlowOfLength_6 (post : zz_St → Prop) (kn6 : Int64 → Int32 → Int32 → zz_St → Prop) (x1 : Int64) (x3 : Int32) (x4 : Int32) (u : zz_St) : Prop :=
  (x4 ≤ x3 → (post u)) ∧ (¬ x4 ≤ x3 → ((vp_in x3 7 ∧ (kn6 x1 (x3 + 1) x4 (ss_b u 0 (vp_updL (sg_b u 0) x3.toNatClampNeg x1))))))
def wp_JA_fillJ_LlowOfLength_6_f (post : zz_St → Prop) : Nat → Int64 → Int32 → Int32 → zz_St → Prop
  | 0 => fun _ _ _ _ => False
  | n + 1 => wp_JA_fillJ_LlowOfLength_6 post (wp_JA_fillJ_LlowOfLength_6_f post n)
def wp_JA_fillJ_LlowOfLength (a1 : Int64) (u : zz_St) (post : zz_St → Prop) : Prop :=
  ∃ n : Nat, wp_JA_fillJ_LlowOfLength_6_f post  n a1 0 7 u
def wp_JA_fillJ_LhighOfLength_6 (post : zz_St → Prop) (kn6 : Int64 → Int32 → Int32 → zz_St → Prop) (x1 : Int64) (x3 : Int32) (x4 : Int32) (u : zz_St) : Prop :=
  (x4 ≤ x3 → (post u)) ∧ (¬ x4 ≤ x3 → ((vp_in x3 7 ∧ (kn6 x1 (x3 + 1) x4 (ss_b u 1 (vp_updL (sg_b u 1) x3.toNatClampNeg x1))))))
def wp_JA_fillJ_LhighOfLength_6_f (post : zz_St → Prop) : Nat → Int64 → Int32 → Int32 → zz_St → Prop
  | 0 => fun _ _ _ _ => False
  | n + 1 => wp_JA_fillJ_LhighOfLength_6 post (wp_JA_fillJ_LhighOfLength_6_f post n)
def wp_JA_fillJ_LhighOfLength (a1 : Int64) (u : zz_St) (post : zz_St → Prop) : Prop :=
  ∃ n : Nat, wp_JA_fillJ_LhighOfLength_6_f post  n a1 0 7 u
def wp_JA_fillJ_LlowOfKey_6 (post : zz_St → Prop) (kn6 : Int64 → Int32 → Int32 → zz_St → Prop) (x1 : Int64) (x3 : Int32) (x4 : Int32) (u : zz_St) : Prop :=
  (x4 ≤ x3 → (post u)) ∧ (¬ x4 ≤ x3 → ((vp_in x3 156 ∧ (kn6 x1 (x3 + 1) x4 (ss_b u 2 (vp_updL (sg_b u 2) x3.toNatClampNeg x1))))))
def wp_JA_fillJ_LlowOfKey_6_f (post : zz_St → Prop) : Nat → Int64 → Int32 → Int32 → zz_St → Prop
  | 0 => fun _ _ _ _ => False
  | n + 1 => wp_JA_fillJ_LlowOfKey_6 post (wp_JA_fillJ_LlowOfKey_6_f post n)
def wp_JA_fillJ_LlowOfKey (a1 : Int64) (u : zz_St) (post : zz_St → Prop) : Prop :=
  ∃ n : Nat, wp_JA_fillJ_LlowOfKey_6_f post  n a1 0 156 u
def wp_JA_fillJ_LhighOfKey_6 (post : zz_St → Prop) (kn6 : Int64 → Int32 → Int32 → zz_St → Prop) (x1 : Int64) (x3 : Int32) (x4 : Int32) (u : zz_St) : Prop :=
  (x4 ≤ x3 → (post u)) ∧ (¬ x4 ≤ x3 → ((vp_in x3 156 ∧ (kn6 x1 (x3 + 1) x4 (ss_b u 3 (vp_updL (sg_b u 3) x3.toNatClampNeg x1))))))
def wp_JA_fillJ_LhighOfKey_6_f (post : zz_St → Prop) : Nat → Int64 → Int32 → Int32 → zz_St → Prop
  | 0 => fun _ _ _ _ => False
  | n + 1 => wp_JA_fillJ_LhighOfKey_6 post (wp_JA_fillJ_LhighOfKey_6_f post n)
def wp_JA_fillJ_LhighOfKey (a1 : Int64) (u : zz_St) (post : zz_St → Prop) : Prop :=
  ∃ n : Nat, wp_JA_fillJ_LhighOfKey_6_f post  n a1 0 156 u
def wp_G_cellAt (a0 : Int32) (a1 : Int32) (u : zz_St) (post : Int32 → zz_St → Prop) : Prop :=
  (a0 < 0 → (post (-1) u)) ∧ (¬ a0 < 0 → (((sg_i u 0) ≤ a0 → (post (-1) u)) ∧ (¬ (sg_i u 0) ≤ a0 → ((a1 < 0 → (post (-1) u)) ∧ (¬ a1 < 0 → (((sg_i u 1) ≤ a1 → (post (-1) u)) ∧ (¬ (sg_i u 1) ≤ a1 → (post (a0 + ((sg_i u 0) * a1)) u))))))))
def wp_G_hasSlot (a0 : Int32) (u : zz_St) (post : Int32 → zz_St → Prop) : Prop :=
  (a0 < 0 → (post 0 u)) ∧ (¬ a0 < 0 → (((sg_i u 3) ≤ a0 → (post 0 u)) ∧ (¬ (sg_i u 3) ≤ a0 → (post 1 u))))
def wp_G_cellOf (a0 : Int32) (a1 : Int32) (u : zz_St) (post : Int32 → zz_St → Prop) : Prop :=
  vp_in a0 24 ∧ (vp_in a0 24 ∧ (((sg_a u 4 a0.toNatClampNeg) = 0 → (post ((sg_a u 2 a0.toNatClampNeg) + (a1 * 1)) u)) ∧ (¬ (sg_a u 4 a0.toNatClampNeg) = 0 → (post ((sg_a u 2 a0.toNatClampNeg) + (a1 * (sg_i u 0))) u))))
def wp_G_slotAt (a0 : Int32) (a1 : Int32) (u : zz_St) (post : Int32 → zz_St → Prop) : Prop :=
  vp_in ((a1 * 36) + a0) 72 ∧ (post (sg_a u 6 ((a1 * 36) + a0).toNatClampNeg) u)
def wp_G_placeAt (a0 : Int32) (a1 : Int32) (u : zz_St) (post : Int32 → zz_St → Prop) : Prop :=
  vp_in ((a1 * 36) + a0) 72 ∧ (post (sg_a u 7 ((a1 * 36) + a0).toNatClampNeg) u)
def wp_G_isOpen (a0 : Int32) (a1 : Int32) (u : zz_St) (post : Int32 → zz_St → Prop) : Prop :=
  wp_G_cellAt a0 a1 u (fun r2 s1 => ((r2 = (-1) → (post 0 s1)) ∧ (¬ r2 = (-1) → (vp_in r2 36 ∧ (((sg_a s1 0 r2.toNatClampNeg) = 0 → (post 1 s1)) ∧ (¬ (sg_a s1 0 r2.toNatClampNeg) = 0 → (post 0 s1)))))))
def wp_G_markCells_2 (post : zz_St → Prop) (kn2 : Int32 → Int32 → zz_St → Prop) (x1 : Int32) (x2 : Int32) (u : zz_St) : Prop :=
  vp_in x1 24 ∧ (((sg_a u 3 x1.toNatClampNeg) ≤ x2 → (post u)) ∧ (¬ (sg_a u 3 x1.toNatClampNeg) ≤ x2 → (vp_in x1 24 ∧ (wp_G_cellOf x1 x2 u (fun r3 s2 => (∀ v4 : Int32, v4 = ((sg_a u 4 x1.toNatClampNeg) * 36) + r3 → ((vp_in v4 72 ∧ ((vp_in v4 72 ∧ (kn2 x1 (x2 + 1) (ss_a (ss_a s2 6 (upd (sg_a s2 6) v4.toNatClampNeg x1)) 7 (upd (sg_a s2 7) v4.toNatClampNeg x2)))))))))))))
def wp_G_markCells_2_f (post : zz_St → Prop) : Nat → Int32 → Int32 → zz_St → Prop
  | 0 => fun _ _ _ => False
  | n + 1 => wp_G_markCells_2 post (wp_G_markCells_2_f post n)
def wp_G_markCells (a0 : Int32) (u : zz_St) (post : zz_St → Prop) : Prop :=
  ∃ n : Nat, wp_G_markCells_2_f post  n a0 0 u
def wp_G_addSlotFrom_70 (post : zz_St → Prop) (x1 : Int32) (x2 : Int32) (x3 : Int32) (x6 : Int32) (u : zz_St) : Prop :=
  (x6 < 2 → (post u)) ∧ (¬ x6 < 2 → ((24 ≤ (sg_i u 3) → (post u)) ∧ (¬ 24 ≤ (sg_i u 3) → (wp_G_cellAt x1 x2 u (fun r13 s12 => ((vp_in (sg_i u 3) 24 ∧ ((vp_in (sg_i s12 3) 24 ∧ ((vp_in (sg_i s12 3) 24 ∧ (wp_G_markCells (sg_i s12 3) (ss_a (ss_a (ss_a s12 2 (upd (sg_a s12 2) (sg_i u 3).toNatClampNeg r13)) 3 (upd (sg_a s12 3) (sg_i s12 3).toNatClampNeg x6)) 4 (upd (sg_a s12 4) (sg_i s12 3).toNatClampNeg x3)) (fun s14 => (∀ v15 : Int32, v15 = (sg_i s14 3) + 1 → (post (ss_i s14 3 v15))))))))))))))))
def wp_G_addSlotFrom_36 (post : zz_St → Prop) (kn36 : Int32 → Int32 → Int32 → Int32 → Int32 → Int32 → zz_St → Prop) (x1 : Int32) (x2 : Int32) (x3 : Int32) (x4 : Int32) (x5 : Int32) (x6 : Int32) (u : zz_St) : Prop :=
  (6 ≤ x6 → (wp_G_addSlotFrom_70 post  x1 x2 x3 x6 u)) ∧ (¬ 6 ≤ x6 → (wp_G_isOpen (x1 + (x6 * x4)) (x2 + (x6 * x5)) u (fun r8 s7 => ((r8 = 0 → (wp_G_addSlotFrom_70 post x1 x2 x3 x6 s7)) ∧ (¬ r8 = 0 → (kn36 x1 x2 x3 x4 x5 (x6 + 1) s7))))))
def wp_G_addSlotFrom_36_f (post : zz_St → Prop) : Nat → Int32 → Int32 → Int32 → Int32 → Int32 → Int32 → zz_St → Prop
  | 0 => fun _ _ _ _ _ _ _ => False
  | n + 1 => wp_G_addSlotFrom_36 post (wp_G_addSlotFrom_36_f post n)
def wp_G_addSlotFrom_9 (post : zz_St → Prop) (x1 : Int32) (x2 : Int32) (x3 : Int32) (y0 : Int32) (u : zz_St) : Prop :=
  ∀ v2 : Int32, v2 = 1 - y0 → (wp_G_isOpen (x1 - y0) (x2 - v2) u (fun r4 s3 => ((r4 = 0 → (∃ n : Nat, wp_G_addSlotFrom_36_f post n x1 x2 x3 y0 v2 0 s3)) ∧ (¬ r4 = 0 → (post s3)))))
def wp_G_addSlotFrom (a0 : Int32) (a1 : Int32) (a2 : Int32) (u : zz_St) (post : zz_St → Prop) : Prop :=
  (a2 = 0 → (wp_G_addSlotFrom_9 post  a0 a1 a2 1 u)) ∧ (¬ a2 = 0 → (wp_G_addSlotFrom_9 post  a0 a1 a2 0 u))
def wp_G_findSlots_40 (post : zz_St → Prop) (kn23 : Int32 → zz_St → Prop) (kn30 : Int32 → Int32 → zz_St → Prop) (kn40 : Int32 → Int32 → Int32 → zz_St → Prop) (x1 : Int32) (x2 : Int32) (x3 : Int32) (u : zz_St) : Prop :=
  ((sg_i u 0) ≤ x3 → (kn30 x1 (x2 + 1) u)) ∧ (¬ (sg_i u 0) ≤ x3 → (wp_G_addSlotFrom x3 x2 x1 u (fun s6 => (kn40 x1 x2 (x3 + 1) s6))))
def wp_G_findSlots_40_f (post : zz_St → Prop) (kn23 : Int32 → zz_St → Prop) (kn30 : Int32 → Int32 → zz_St → Prop) : Nat → Int32 → Int32 → Int32 → zz_St → Prop
  | 0 => fun _ _ _ _ => False
  | n + 1 => wp_G_findSlots_40 post kn23 kn30 (wp_G_findSlots_40_f post kn23 kn30 n)
def wp_G_findSlots_30 (post : zz_St → Prop) (kn23 : Int32 → zz_St → Prop) (kn30 : Int32 → Int32 → zz_St → Prop) (x1 : Int32) (x2 : Int32) (u : zz_St) : Prop :=
  ((sg_i u 1) ≤ x2 → (kn23 (x1 + 1) u)) ∧ (¬ (sg_i u 1) ≤ x2 → (∃ n : Nat, wp_G_findSlots_40_f post kn23 kn30 n x1 x2 0 u))
def wp_G_findSlots_30_f (post : zz_St → Prop) (kn23 : Int32 → zz_St → Prop) : Nat → Int32 → Int32 → zz_St → Prop
  | 0 => fun _ _ _ => False
  | n + 1 => wp_G_findSlots_30 post kn23 (wp_G_findSlots_30_f post kn23 n)
def wp_G_findSlots_23 (post : zz_St → Prop) (kn23 : Int32 → zz_St → Prop) (x1 : Int32) (u : zz_St) : Prop :=
  (1 < x1 → (post u)) ∧ (¬ 1 < x1 → (∃ n : Nat, wp_G_findSlots_30_f post kn23 n x1 0 u))
def wp_G_findSlots_23_f (post : zz_St → Prop) : Nat → Int32 → zz_St → Prop
  | 0 => fun _ _ => False
  | n + 1 => wp_G_findSlots_23 post (wp_G_findSlots_23_f post n)
def wp_G_findSlots (u : zz_St) (post : zz_St → Prop) : Prop :=
  wp_JA_fillI_GthemeOf (-1) (ss_i u 3 0) (fun s1 => (wp_JA_fillI_GslotThrough (-1) s1 (fun s2 => (∃ n : Nat, wp_G_findSlots_23_f post n 0 s2))))
def wp_G_paint (a0 : Int32) (a1 : Int32) (u : zz_St) (post : zz_St → Prop) : Prop :=
  (vp_in a0 36 ∧ ((a1 = 0 ∨ a1 = 1) ∧ wp_JA_fillI_GgivenAt 0 (ss_a u 0 (upd (sg_a u 0) a0.toNatClampNeg a1)) (fun s1 => (wp_G_findSlots s1 (fun s2 => (post s2))))))
def wp_G_imageIsOpen (a0 : Int32) (a1 : Int32) (a2 : Int32) (u : zz_St) (post : Int32 → zz_St → Prop) : Prop :=
  (a0 = 0 → (wp_G_isOpen (((sg_i u 0) - 1) - a1) (((sg_i u 1) - 1) - a2) u (fun r2 s1 => ((r2 = 0 ∨ r2 = 1) ∧ post r2 s1)))) ∧ (a0 = 1 → (wp_G_isOpen (((sg_i u 0) - 1) - a1) a2 u (fun r4 s3 => ((r4 = 0 ∨ r4 = 1) ∧ post r4 s3)))) ∧ (a0 = 2 → (wp_G_isOpen a1 (((sg_i u 1) - 1) - a2) u (fun r6 s5 => ((r6 = 0 ∨ r6 = 1) ∧ post r6 s5)))) ∧ ((a0.toInt < 0 ∨ 2 < a0.toInt) → (wp_G_isOpen a2 a1 u (fun r8 s7 => ((r8 = 0 ∨ r8 = 1) ∧ post r8 s7))))
def wp_G_looksTheSame_12 (post : Int32 → zz_St → Prop) (kn2 : Int32 → Int32 → zz_St → Prop) (kn12 : Int32 → Int32 → Int32 → zz_St → Prop) (x1 : Int32) (x2 : Int32) (x3 : Int32) (u : zz_St) : Prop :=
  ((sg_i u 0) ≤ x3 → (kn2 x1 (x2 + 1) u)) ∧ (¬ (sg_i u 0) ≤ x3 → (wp_G_isOpen x3 x2 u (fun r4 s3 => (wp_G_imageIsOpen x1 x3 x2 s3 (fun r6 s5 => ((r4 = r6 → (kn12 x1 x2 (x3 + 1) s5)) ∧ (¬ r4 = r6 → (post 0 s5))))))))
def wp_G_looksTheSame_12_f (post : Int32 → zz_St → Prop) (kn2 : Int32 → Int32 → zz_St → Prop) : Nat → Int32 → Int32 → Int32 → zz_St → Prop
  | 0 => fun _ _ _ _ => False
  | n + 1 => wp_G_looksTheSame_12 post kn2 (wp_G_looksTheSame_12_f post kn2 n)
def wp_G_looksTheSame_2 (post : Int32 → zz_St → Prop) (kn2 : Int32 → Int32 → zz_St → Prop) (x1 : Int32) (x2 : Int32) (u : zz_St) : Prop :=
  ((sg_i u 1) ≤ x2 → (post 1 u)) ∧ (¬ (sg_i u 1) ≤ x2 → (∃ n : Nat, wp_G_looksTheSame_12_f post kn2 n x1 x2 0 u))
def wp_G_looksTheSame_2_f (post : Int32 → zz_St → Prop) : Nat → Int32 → Int32 → zz_St → Prop
  | 0 => fun _ _ _ => False
  | n + 1 => wp_G_looksTheSame_2 post (wp_G_looksTheSame_2_f post n)
def wp_G_looksTheSame (a0 : Int32) (u : zz_St) (post : Int32 → zz_St → Prop) : Prop :=
  ∃ n : Nat, wp_G_looksTheSame_2_f post  n a0 0 u
def wp_G_join_90 (post : Int32 → zz_St → Prop) (kn60 : Int32 → Int32 → Int32 → zz_St → Prop) (x5 : Int32) (x6 : Int32) (x7 : Int32) (u : zz_St) : Prop :=
  kn60 x5 x6 (x7 + 1) u
def wp_G_join_60 (post : Int32 → zz_St → Prop) (kn60 : Int32 → Int32 → Int32 → zz_St → Prop) (x5 : Int32) (x6 : Int32) (x7 : Int32) (u : zz_St) : Prop :=
  ((sg_i u 2) ≤ x7 → (post 1 u)) ∧ (¬ (sg_i u 2) ≤ x7 → (vp_in x7 36 ∧ (((sg_a u 8 x7.toNatClampNeg) = x6 → ((vp_in x7 36 ∧ (wp_G_join_90 post kn60 x5 x6 x7 (ss_a u 8 (upd (sg_a u 8) x7.toNatClampNeg x5)))))) ∧ (¬ (sg_a u 8 x7.toNatClampNeg) = x6 → (wp_G_join_90 post kn60 x5 x6 x7 u)))))
def wp_G_join_60_f (post : Int32 → zz_St → Prop) : Nat → Int32 → Int32 → Int32 → zz_St → Prop
  | 0 => fun _ _ _ _ => False
  | n + 1 => wp_G_join_60 post (wp_G_join_60_f post n)
def wp_G_join (a0 : Int32) (a1 : Int32) (a2 : Int32) (a3 : Int32) (u : zz_St) (post : Int32 → zz_St → Prop) : Prop :=
  wp_G_isOpen a0 a1 u (fun r2 s1 => ((r2 = 0 → (post 0 s1)) ∧ (¬ r2 = 0 → (wp_G_isOpen a2 a3 s1 (fun r5 s4 => ((r5 = 0 → (post 0 s4)) ∧ (¬ r5 = 0 → (wp_G_cellAt a0 a1 s4 (fun r8 s7 => (vp_in r8 36 ∧ (∀ v9 : Int32, v9 = sg_a s7 8 r8.toNatClampNeg → (wp_G_cellAt a2 a3 s7 (fun r11 s10 => (vp_in r11 36 ∧ (∀ v12 : Int32, v12 = sg_a s10 8 r11.toNatClampNeg → ((v9 = v12 → (post 0 s10)) ∧ (¬ v9 = v12 → (∃ n : Nat, wp_G_join_60_f post n v9 v12 0 s10))))))))))))))))))
def wp_G_countParts_34 (post : Int32 → zz_St → Prop) (kn4 : Int32 → Int32 → zz_St → Prop) (x2 : Int32) (y0 : Int32) (y1 : Int32) (u : zz_St) : Prop :=
  ∀ v3 : Int32, v3 = y1 + y0 → (kn4 v3 (x2 + 1) u)
def wp_G_countParts_102 (post : Int32 → zz_St → Prop) (kn44 : Int32 → Int32 → zz_St → Prop) (kn54 : Int32 → Int32 → Int32 → zz_St → Prop) (x2 : Int32) (x3 : Int32) (y0 : Int32) (y1 : Int32) (u : zz_St) : Prop :=
  ∀ v13 : Int32, v13 = y1 - y0 → (kn54 v13 x2 (x3 + 1) u)
def wp_G_countParts_81 (post : Int32 → zz_St → Prop) (kn44 : Int32 → Int32 → zz_St → Prop) (kn54 : Int32 → Int32 → Int32 → zz_St → Prop) (x2 : Int32) (x3 : Int32) (y0 : Int32) (y1 : Int32) (u : zz_St) : Prop :=
  ∀ v9 : Int32, v9 = y1 - y0 → (wp_G_join x3 x2 x3 (x2 + 1) u (fun r11 s10 => ((r11 = 0 → (wp_G_countParts_102 post kn44 kn54 x2 x3 0 v9 s10)) ∧ (¬ r11 = 0 → (wp_G_countParts_102 post kn44 kn54 x2 x3 1 v9 s10)))))
def wp_G_countParts_54 (post : Int32 → zz_St → Prop) (kn44 : Int32 → Int32 → zz_St → Prop) (kn54 : Int32 → Int32 → Int32 → zz_St → Prop) (x1 : Int32) (x2 : Int32) (x3 : Int32) (u : zz_St) : Prop :=
  ((sg_i u 0) ≤ x3 → (kn44 x1 (x2 + 1) u)) ∧ (¬ (sg_i u 0) ≤ x3 → (wp_G_join x3 x2 (x3 + 1) x2 u (fun r7 s6 => ((r7 = 0 → (wp_G_countParts_81 post kn44 kn54 x2 x3 0 x1 s6)) ∧ (¬ r7 = 0 → (wp_G_countParts_81 post kn44 kn54 x2 x3 1 x1 s6))))))
def wp_G_countParts_54_f (post : Int32 → zz_St → Prop) (kn44 : Int32 → Int32 → zz_St → Prop) : Nat → Int32 → Int32 → Int32 → zz_St → Prop
  | 0 => fun _ _ _ _ => False
  | n + 1 => wp_G_countParts_54 post kn44 (wp_G_countParts_54_f post kn44 n)
def wp_G_countParts_44 (post : Int32 → zz_St → Prop) (kn44 : Int32 → Int32 → zz_St → Prop) (x1 : Int32) (x2 : Int32) (u : zz_St) : Prop :=
  ((sg_i u 1) ≤ x2 → (post x1 u)) ∧ (¬ (sg_i u 1) ≤ x2 → (∃ n : Nat, wp_G_countParts_54_f post kn44 n x1 x2 0 u))
def wp_G_countParts_44_f (post : Int32 → zz_St → Prop) : Nat → Int32 → Int32 → zz_St → Prop
  | 0 => fun _ _ _ => False
  | n + 1 => wp_G_countParts_44 post (wp_G_countParts_44_f post n)
def wp_G_countParts_4 (post : Int32 → zz_St → Prop) (kn4 : Int32 → Int32 → zz_St → Prop) (x1 : Int32) (x2 : Int32) (u : zz_St) : Prop :=
  ((sg_i u 2) ≤ x2 → (∃ n : Nat, wp_G_countParts_44_f post  n x1 0 u)) ∧ (¬ (sg_i u 2) ≤ x2 → ((vp_in x2 36 ∧ (vp_in x2 36 ∧ (((sg_a u 0 x2.toNatClampNeg) = 0 → (wp_G_countParts_34 post kn4 x2 1 x1 (ss_a u 8 (upd (sg_a u 8) x2.toNatClampNeg x2)))) ∧ (¬ (sg_a u 0 x2.toNatClampNeg) = 0 → (wp_G_countParts_34 post kn4 x2 0 x1 (ss_a u 8 (upd (sg_a u 8) x2.toNatClampNeg x2)))))))))
def wp_G_countParts_4_f (post : Int32 → zz_St → Prop) : Nat → Int32 → Int32 → zz_St → Prop
  | 0 => fun _ _ _ => False
  | n + 1 => wp_G_countParts_4 post (wp_G_countParts_4_f post n)
def wp_G_countParts (u : zz_St) (post : Int32 → zz_St → Prop) : Prop :=
  ∃ n : Nat, wp_G_countParts_4_f post  n 0 0 u
def wp_L_lowBit (a0 : Int32) (u : zz_St) (post : Int64 → zz_St → Prop) : Prop :=
  (64 ≤ a0 → (post 0 u)) ∧ (¬ 64 ≤ a0 → (post (1 <<< (a0.toInt64 &&& 63)) u))
def wp_L_highBit (a0 : Int32) (u : zz_St) (post : Int64 → zz_St → Prop) : Prop :=
  (64 ≤ a0 → (post (1 <<< ((a0 - 64).toInt64 &&& 63)) u)) ∧ (¬ 64 ≤ a0 → (post 0 u))
def wp_L_keyOf (a0 : Int32) (a1 : Int32) (u : zz_St) (post : Int32 → zz_St → Prop) : Prop :=
  post (((a0 * 26) + a1) - 97) u
def wp_L_hasWord (a0 : Int32) (u : zz_St) (post : Int32 → zz_St → Prop) : Prop :=
  (a0 < 0 → (post 0 u)) ∧ (¬ a0 < 0 → (((sg_i u 4) ≤ a0 → (post 0 u)) ∧ (¬ (sg_i u 4) ≤ a0 → (post 1 u))))
def wp_L_letterOf (a0 : Int32) (a1 : Int32) (u : zz_St) (post : Int32 → zz_St → Prop) : Prop :=
  vp_in ((a0 * 6) + a1) 480 ∧ (post (sg_a u 13 ((a0 * 6) + a1).toNatClampNeg) u)
def wp_L_collect (a0 : Int32) (u : zz_St) (post : Int32 → zz_St → Prop) : Prop :=
  ((sg_i u 5) < 6 → ((vp_in (sg_i u 5) 6 ∧ (∀ v2 : Int32, v2 = (sg_i u 5) + 1 → (post 1 (ss_i (ss_a u 14 (upd (sg_a u 14) (sg_i u 5).toNatClampNeg a0)) 5 v2)))))) ∧ (¬ (sg_i u 5) < 6 → (post 0 u))
def wp_L_dropCollected (u : zz_St) (post : zz_St → Prop) : Prop :=
  post (ss_i u 5 0)
def wp_L_isCollected_17 (post : Int32 → zz_St → Prop) (kn17 : Int32 → Int32 → zz_St → Prop) (x1 : Int32) (x2 : Int32) (u : zz_St) : Prop :=
  ((sg_i u 5) ≤ x2 → (post 1 u)) ∧ (¬ (sg_i u 5) ≤ x2 → (wp_L_letterOf x1 x2 u (fun r4 s3 => (vp_in x2 6 ∧ ((r4 = (sg_a s3 14 x2.toNatClampNeg) → (kn17 x1 (x2 + 1) s3)) ∧ (¬ r4 = (sg_a s3 14 x2.toNatClampNeg) → (post 0 s3)))))))
def wp_L_isCollected_17_f (post : Int32 → zz_St → Prop) : Nat → Int32 → Int32 → zz_St → Prop
  | 0 => fun _ _ _ => False
  | n + 1 => wp_L_isCollected_17 post (wp_L_isCollected_17_f post n)
def wp_L_isCollected (a0 : Int32) (u : zz_St) (post : Int32 → zz_St → Prop) : Prop :=
  vp_in a0 80 ∧ (((sg_a u 9 a0.toNatClampNeg) = (sg_i u 5) → (∃ n : Nat, wp_L_isCollected_17_f post  n a0 0 u)) ∧ (¬ (sg_a u 9 a0.toNatClampNeg) = (sg_i u 5) → (post 0 u)))
def wp_L_isThere_2 (post : Int32 → zz_St → Prop) (kn2 : Int32 → zz_St → Prop) (x1 : Int32) (u : zz_St) : Prop :=
  ((sg_i u 4) ≤ x1 → (post 0 u)) ∧ (¬ (sg_i u 4) ≤ x1 → (wp_L_isCollected x1 u (fun r3 s2 => ((r3 = 0 → (kn2 (x1 + 1) s2)) ∧ (¬ r3 = 0 → (post 1 s2))))))
def wp_L_isThere_2_f (post : Int32 → zz_St → Prop) : Nat → Int32 → zz_St → Prop
  | 0 => fun _ _ => False
  | n + 1 => wp_L_isThere_2 post (wp_L_isThere_2_f post n)
def wp_L_isThere (u : zz_St) (post : Int32 → zz_St → Prop) : Prop :=
  ∃ n : Nat, wp_L_isThere_2_f post  n 0 u
def wp_L_rank_48 (post : zz_St → Prop) (x1 : Int32) (x2 : Int32) (u : zz_St) : Prop :=
  (vp_in x2 80 ∧ (post (ss_a u 11 (upd (sg_a u 11) x2.toNatClampNeg x1))))
def wp_L_rank_2 (post : zz_St → Prop) (kn2 : Int32 → Int32 → zz_St → Prop) (x1 : Int32) (x2 : Int32) (u : zz_St) : Prop :=
  (x2 ≤ 0 → (wp_L_rank_48 post  x1 x2 u)) ∧ (¬ x2 ≤ 0 → (vp_in (x2 - 1) 80 ∧ (vp_in (sg_a u 11 (x2 - 1).toNatClampNeg) 80 ∧ (vp_in x1 80 ∧ (((sg_a u 10 x1.toNatClampNeg) ≤ (sg_a u 10 (sg_a u 11 (x2 - 1).toNatClampNeg).toNatClampNeg) → (wp_L_rank_48 post  x1 x2 u)) ∧ (¬ (sg_a u 10 x1.toNatClampNeg) ≤ (sg_a u 10 (sg_a u 11 (x2 - 1).toNatClampNeg).toNatClampNeg) → (vp_in (x2 - 1) 80 ∧ (∀ v3 : Int32, v3 = sg_a u 11 (x2 - 1).toNatClampNeg → (vp_in x2 80 ∧ (kn2 x1 (x2 + (-1)) (ss_a u 11 (upd (sg_a u 11) x2.toNatClampNeg v3))))))))))))
def wp_L_rank_2_f (post : zz_St → Prop) : Nat → Int32 → Int32 → zz_St → Prop
  | 0 => fun _ _ _ => False
  | n + 1 => wp_L_rank_2 post (wp_L_rank_2_f post n)
def wp_L_rank (a0 : Int32) (u : zz_St) (post : zz_St → Prop) : Prop :=
  ∃ n : Nat, wp_L_rank_2_f post  n a0 a0 u
def wp_L_sortIntoSets_94 (post : zz_St → Prop) (kn34 : Int32 → zz_St → Prop) (kn94 : Int32 → Int32 → Int32 → zz_St → Prop) (x1 : Int32) (x2 : Int32) (x3 : Int32) (u : zz_St) : Prop :=
  vp_in x2 80 ∧ (((sg_a u 9 x2.toNatClampNeg) ≤ x3 → (kn34 (x1 + 1) u)) ∧ (¬ (sg_a u 9 x2.toNatClampNeg) ≤ x3 → (wp_L_letterOf x2 x3 u (fun r15 s14 => (wp_L_keyOf x3 r15 s14 (fun r17 s16 => (vp_in r17 156 ∧ (wp_L_lowBit x1 s16 (fun r19 s18 => (∀ v20 : Int64, v20 = (sg_b s16 2 r17.toNatClampNeg) ||| r19 → (vp_in r17 156 ∧ (vp_in r17 156 ∧ (wp_L_highBit x1 (ss_b s18 2 (vp_updL (sg_b s18 2) r17.toNatClampNeg v20)) (fun r22 s21 => (∀ v23 : Int64, v23 = (sg_b s18 3 r17.toNatClampNeg) ||| r22 → (vp_in r17 156 ∧ (kn94 x1 x2 (x3 + 1) (ss_b s21 3 (vp_updL (sg_b s21 3) r17.toNatClampNeg v23)))))))))))))))))))
def wp_L_sortIntoSets_94_f (post : zz_St → Prop) (kn34 : Int32 → zz_St → Prop) : Nat → Int32 → Int32 → Int32 → zz_St → Prop
  | 0 => fun _ _ _ _ => False
  | n + 1 => wp_L_sortIntoSets_94 post kn34 (wp_L_sortIntoSets_94_f post kn34 n)
def wp_L_sortIntoSets_34 (post : zz_St → Prop) (kn34 : Int32 → zz_St → Prop) (x1 : Int32) (u : zz_St) : Prop :=
  ((sg_i u 4) ≤ x1 → (post u)) ∧ (¬ (sg_i u 4) ≤ x1 → (vp_in x1 80 ∧ (∀ v6 : Int32, v6 = sg_a u 11 x1.toNatClampNeg → ((vp_in v6 80 ∧ (vp_in v6 80 ∧ (vp_in (sg_a u 9 v6.toNatClampNeg) 7 ∧ (wp_L_lowBit x1 (ss_a u 12 (upd (sg_a u 12) v6.toNatClampNeg x1)) (fun r8 s7 => (∀ v9 : Int64, v9 = (sg_b u 0 (sg_a u 9 v6.toNatClampNeg).toNatClampNeg) ||| r8 → (vp_in (sg_a u 9 v6.toNatClampNeg) 7 ∧ (vp_in v6 80 ∧ (vp_in (sg_a s7 9 v6.toNatClampNeg) 7 ∧ (wp_L_highBit x1 (ss_b s7 0 (vp_updL (sg_b s7 0) (sg_a u 9 v6.toNatClampNeg).toNatClampNeg v9)) (fun r11 s10 => (∀ v12 : Int64, v12 = (sg_b s7 1 (sg_a s7 9 v6.toNatClampNeg).toNatClampNeg) ||| r11 → (vp_in (sg_a s7 9 v6.toNatClampNeg) 7 ∧ (∃ n : Nat, wp_L_sortIntoSets_94_f post kn34 n x1 v6 0 (ss_b s10 1 (vp_updL (sg_b s10 1) (sg_a s7 9 v6.toNatClampNeg).toNatClampNeg v12))))))))))))))))))))
def wp_L_sortIntoSets_34_f (post : zz_St → Prop) : Nat → Int32 → zz_St → Prop
  | 0 => fun _ _ => False
  | n + 1 => wp_L_sortIntoSets_34 post (wp_L_sortIntoSets_34_f post n)
def wp_L_sortIntoSets (u : zz_St) (post : zz_St → Prop) : Prop :=
  wp_JA_fillJ_LlowOfLength 0 u (fun s1 => (wp_JA_fillJ_LhighOfLength 0 s1 (fun s2 => (wp_JA_fillJ_LlowOfKey 0 s2 (fun s3 => (wp_JA_fillJ_LhighOfKey 0 s3 (fun s4 => (∃ n : Nat, wp_L_sortIntoSets_34_f post n 0 s4))))))))
def wp_L_wordFromCollected (a0 : Int32) (u : zz_St) (post : Int32 → zz_St → Prop) : Prop :=
  ((sg_i u 5) < 2 → (post (-1) u)) ∧ (¬ (sg_i u 5) < 2 → ((a0 < 0 → (post (-1) u)) ∧ (¬ a0 < 0 → ((1000 < a0 → (post (-1) u)) ∧ (¬ 1000 < a0 → ((80 ≤ (sg_i u 4) → (post (-1) u)) ∧ (¬ 80 ≤ (sg_i u 4) → (wp_L_isThere u (fun r6 s5 => ((r6 = 0 → (∀ v8 : Int32, v8 = sg_i s5 4 → (∀ v9 : Int32, v9 = sg_i s5 5 → (vp_in v8 80 ∧ ((vp_in v8 80 ∧ ((¬ 0 < 0) ∧ (¬ (v8 * 6) < 0) ∧ (¬ (sg_i s5 5) < 0) ∧ (0 : Int32).toNatClampNeg + (sg_i s5 5).toNatClampNeg ≤ 6 ∧ (v8 * 6).toNatClampNeg + (sg_i s5 5).toNatClampNeg ≤ 480 ∧ (wp_L_rank v8 (ss_a (ss_a (ss_a s5 9 (upd (sg_a s5 9) v8.toNatClampNeg v9)) 10 (upd (sg_a s5 10) v8.toNatClampNeg a0)) 13 (va_cpy (sg_a s5 14) (sg_a s5 13) (0 : Int32).toNatClampNeg (v8 * 6).toNatClampNeg (sg_i s5 5).toNatClampNeg)) (fun s10 => (∀ v11 : Int32, v11 = (sg_i s10 4) + 1 → (wp_L_sortIntoSets (ss_i s10 4 v11) (fun s12 => (post v8 s12))))))))))))) ∧ (¬ r6 = 0 → (post (-1) s5))))))))))))
def wp_F_forget (u : zz_St) (post : zz_St → Prop) : Prop :=
  post (ss_i u 6 (-1))
def wp_F_keep (a1 : Int32) (u : zz_St) (post : zz_St → Prop) : Prop :=
  (¬ 0 < 0) ∧ (¬ 0 < 0) ∧ (¬ (sg_i u 3) < 0) ∧ (0 : Int32).toNatClampNeg + (sg_i u 3).toNatClampNeg ≤ 24 ∧ (0 : Int32).toNatClampNeg + (sg_i u 3).toNatClampNeg ≤ 24 ∧ (post (ss_i (ss_a u 15 (va_cpy (sg_a u 16) (sg_a u 15) (0 : Int32).toNatClampNeg (0 : Int32).toNatClampNeg (sg_i u 3).toNatClampNeg)) 6 a1))
def wp_F_wordOf (a0 : Int32) (u : zz_St) (post : Int32 → zz_St → Prop) : Prop :=
  ((sg_i u 6) = (-1) → (post (-1) u)) ∧ (¬ (sg_i u 6) = (-1) → (vp_in a0 24 ∧ (post (sg_a u 15 a0.toNatClampNeg) u)))
def wp_F_letterBy (a0 : Int32) (a1 : Int32) (u : zz_St) (post : Int32 → zz_St → Prop) : Prop :=
  wp_G_slotAt a0 a1 u (fun r2 s1 => (((sg_i s1 6) = (-1) → (post 0 s1)) ∧ (¬ (sg_i s1 6) = (-1) → ((r2 = (-1) → (post 0 s1)) ∧ (¬ r2 = (-1) → (vp_in r2 24 ∧ (wp_G_placeAt a0 a1 s1 (fun r6 s5 => (wp_L_letterOf (sg_a s1 15 r2.toNatClampNeg) r6 s5 (fun r8 s7 => (post r8 s7)))))))))))
def wp_F_letterAt (a0 : Int32) (u : zz_St) (post : Int32 → zz_St → Prop) : Prop :=
  wp_F_letterBy a0 0 u (fun r2 s1 => ((r2 = 0 → (wp_F_letterBy a0 1 s1 (fun r5 s4 => (post r5 s4)))) ∧ (¬ r2 = 0 → (post r2 s1))))
def wp_F_agrees_9 (post : Int32 → zz_St → Prop) (u : zz_St) : Prop :=
  post 1 u
def wp_F_agrees (a0 : Int32) (a1 : Int32) (u : zz_St) (post : Int32 → zz_St → Prop) : Prop :=
  (a0 = 0 → (wp_F_agrees_9 post  u)) ∧ (¬ a0 = 0 → ((a0 = a1 → (wp_F_agrees_9 post  u)) ∧ (¬ a0 = a1 → (post 0 u))))
def wp_F_holds_47 (post : Int32 → zz_St → Prop) (kn47 : Int32 → Int32 → Int32 → zz_St → Prop) (x1 : Int32) (x2 : Int32) (x3 : Int32) (u : zz_St) : Prop :=
  vp_in x1 24 ∧ (((sg_a u 3 x1.toNatClampNeg) ≤ x3 → (post 1 u)) ∧ (¬ (sg_a u 3 x1.toNatClampNeg) ≤ x3 → (wp_G_cellOf x1 x3 u (fun r6 s5 => (vp_in x1 24 ∧ (wp_L_letterOf (sg_a s5 15 x1.toNatClampNeg) x3 s5 (fun r8 s7 => (vp_in r6 36 ∧ (wp_F_agrees (sg_a s7 1 r6.toNatClampNeg) r8 s7 (fun r10 s9 => ((r10 = 0 → (post 0 s9)) ∧ (¬ r10 = 0 → (wp_F_letterBy r6 x2 s9 (fun r13 s12 => (wp_F_agrees r13 r8 s12 (fun r15 s14 => ((r15 = 0 → (post 0 s14)) ∧ (¬ r15 = 0 → (kn47 x1 x2 (x3 + 1) s14)))))))))))))))))))
def wp_F_holds_47_f (post : Int32 → zz_St → Prop) : Nat → Int32 → Int32 → Int32 → zz_St → Prop
  | 0 => fun _ _ _ _ => False
  | n + 1 => wp_F_holds_47 post (wp_F_holds_47_f post n)
def wp_F_holds_33 (post : Int32 → zz_St → Prop) (x1 : Int32) (u : zz_St) : Prop :=
  vp_in x1 24 ∧ (∀ v3 : Int32, v3 = 1 - (sg_a u 4 x1.toNatClampNeg) → (∃ n : Nat, wp_F_holds_47_f post  n x1 v3 0 u))
def wp_F_holds (a0 : Int32) (u : zz_St) (post : Int32 → zz_St → Prop) : Prop :=
  vp_in a0 24 ∧ (((sg_a u 5 a0.toNatClampNeg) = (-1) → (wp_F_holds_33 post  a0 u)) ∧ (¬ (sg_a u 5 a0.toNatClampNeg) = (-1) → (vp_in a0 24 ∧ (vp_in a0 24 ∧ (((sg_a u 5 a0.toNatClampNeg) = (sg_a u 15 a0.toNatClampNeg) → (wp_F_holds_33 post  a0 u)) ∧ (¬ (sg_a u 5 a0.toNatClampNeg) = (sg_a u 15 a0.toNatClampNeg) → (post 0 u)))))))
def wp_F_firstFault_12 (post : Int32 → zz_St → Prop) (kn12 : Int32 → zz_St → Prop) (x1 : Int32) (u : zz_St) : Prop :=
  ((sg_i u 3) ≤ x1 → (post 0 u)) ∧ (¬ (sg_i u 3) ≤ x1 → (wp_F_holds x1 u (fun r4 s3 => ((r4 = 0 → (post (1 + x1) s3)) ∧ (¬ r4 = 0 → (kn12 (x1 + 1) s3))))))
def wp_F_firstFault_12_f (post : Int32 → zz_St → Prop) : Nat → Int32 → zz_St → Prop
  | 0 => fun _ _ => False
  | n + 1 => wp_F_firstFault_12 post (wp_F_firstFault_12_f post n)
def wp_F_firstFault (u : zz_St) (post : Int32 → zz_St → Prop) : Prop :=
  ((sg_i u 6) = (-1) → (post (-1) u)) ∧ (¬ (sg_i u 6) = (-1) → (∃ n : Nat, wp_F_firstFault_12_f post  n 0 u))
def wp_S_narrow (a0 : Int32) (a1 : Int32) (u : zz_St) (post : zz_St → Prop) : Prop :=
  vp_in a0 600 ∧ (vp_in a1 156 ∧ (∀ v1 : Int64, v1 = (sg_b u 4 a0.toNatClampNeg) &&& (sg_b u 2 a1.toNatClampNeg) → (vp_in a0 600 ∧ (vp_in a0 600 ∧ (vp_in a1 156 ∧ (∀ v2 : Int64, v2 = (sg_b u 5 a0.toNatClampNeg) &&& (sg_b u 3 a1.toNatClampNeg) → (vp_in a0 600 ∧ (post (ss_b (ss_b u 4 (vp_updL (sg_b u 4) a0.toNatClampNeg v1)) 5 (vp_updL (sg_b u 5) a0.toNatClampNeg v2))))))))))
def wp_S_openSlot_82 (post : zz_St → Prop) (kn42 : Int32 → Int32 → Int32 → zz_St → Prop) (x1 : Int32) (x2 : Int32) (x3 : Int32) (u : zz_St) : Prop :=
  kn42 x1 x2 (x3 + 1) u
def wp_S_openSlot_42 (post : zz_St → Prop) (kn42 : Int32 → Int32 → Int32 → zz_St → Prop) (x1 : Int32) (x2 : Int32) (x3 : Int32) (u : zz_St) : Prop :=
  (x2 ≤ x3 → (vp_in x1 24 ∧ (∀ v5 : Int32, v5 = sg_a u 5 x1.toNatClampNeg → ((v5 = (-1) → (post u)) ∧ (¬ v5 = (-1) → (vp_in x1 600 ∧ (vp_in v5 80 ∧ (wp_L_lowBit (sg_a u 12 v5.toNatClampNeg) u (fun r8 s7 => (∀ v9 : Int64, v9 = (sg_b u 4 x1.toNatClampNeg) &&& r8 → (vp_in x1 600 ∧ (vp_in x1 600 ∧ (vp_in v5 80 ∧ (wp_L_highBit (sg_a s7 12 v5.toNatClampNeg) (ss_b s7 4 (vp_updL (sg_b s7 4) x1.toNatClampNeg v9)) (fun r11 s10 => (∀ v12 : Int64, v12 = (sg_b s7 5 x1.toNatClampNeg) &&& r11 → (vp_in x1 600 ∧ (post (ss_b s10 5 (vp_updL (sg_b s10 5) x1.toNatClampNeg v12)))))))))))))))))))) ∧ (¬ x2 ≤ x3 → (wp_G_cellOf x1 x3 u (fun r14 s13 => (vp_in r14 36 ∧ (∀ v15 : Int32, v15 = sg_a s13 1 r14.toNatClampNeg → ((v15 = 0 → (wp_S_openSlot_82 post kn42 x1 x2 x3 s13)) ∧ (¬ v15 = 0 → (wp_L_keyOf x3 v15 s13 (fun r18 s17 => (wp_S_narrow x1 r18 s17 (fun s19 => (wp_S_openSlot_82 post kn42 x1 x2 x3 s19))))))))))))
def wp_S_openSlot_42_f (post : zz_St → Prop) : Nat → Int32 → Int32 → Int32 → zz_St → Prop
  | 0 => fun _ _ _ _ => False
  | n + 1 => wp_S_openSlot_42 post (wp_S_openSlot_42_f post n)
def wp_S_openSlot (a0 : Int32) (u : zz_St) (post : zz_St → Prop) : Prop :=
  vp_in a0 24 ∧ (∀ v1 : Int32, v1 = sg_a u 3 a0.toNatClampNeg → (vp_in v1 7 ∧ (∀ v2 : Int64, v2 = sg_b u 0 v1.toNatClampNeg → (vp_in a0 600 ∧ (vp_in v1 7 ∧ (∀ v3 : Int64, v3 = sg_b u 1 v1.toNatClampNeg → (vp_in a0 600 ∧ (∃ n : Nat, wp_S_openSlot_42_f post  n a0 v1 0 (ss_b (ss_b u 4 (vp_updL (sg_b u 4) a0.toNatClampNeg v2)) 5 (vp_updL (sg_b u 5) a0.toNatClampNeg v3))))))))))
def wp_S_countAtStart (a0 : Int32) (u : zz_St) (post : Int32 → zz_St → Prop) : Prop :=
  wp_S_openSlot a0 u (fun s1 => (vp_in a0 600 ∧ (wp_JL_bitCount (sg_b s1 4 a0.toNatClampNeg) s1 (fun r3 s2 => (vp_in a0 600 ∧ (wp_JL_bitCount (sg_b s2 5 a0.toNatClampNeg) s2 (fun r5 s4 => (post (r3 + r5) s4))))))))
def wp_S_clearSlots_12 (post : zz_St → Prop) (kn12 : Int32 → zz_St → Prop) (x1 : Int32) (u : zz_St) : Prop :=
  ((sg_i u 3) ≤ x1 → (post u)) ∧ (¬ (sg_i u 3) ≤ x1 → ((vp_in x1 24 ∧ (wp_S_openSlot x1 (ss_a u 16 (upd (sg_a u 16) x1.toNatClampNeg (-1))) (fun s2 => (kn12 (x1 + 1) s2))))))
def wp_S_clearSlots_12_f (post : zz_St → Prop) : Nat → Int32 → zz_St → Prop
  | 0 => fun _ _ => False
  | n + 1 => wp_S_clearSlots_12 post (wp_S_clearSlots_12_f post n)
def wp_S_clearSlots (u : zz_St) (post : zz_St → Prop) : Prop :=
  ∃ n : Nat, wp_S_clearSlots_12_f post  n 0 (ss_l (ss_l u 0 0) 1 0)
def wp_S_lowestBit (a0 : Int64) (u : zz_St) (post : Int32 → zz_St → Prop) : Prop :=
  wp_JL_bitCount ((a0 &&& (-a0)) - 1) u (fun r2 s1 => (post r2 s1))
def wp_S_takeFilling (u : zz_St) (post : Int32 → zz_St → Prop) : Prop :=
  ∀ v1 : Int32, v1 = (sg_i u 12) + 1 → (((sg_i u 7) ≤ (sg_i u 6) → (((sg_i u 9) = 0 ∨ (sg_i u 9) = 1) ∧ post (sg_i u 9) (ss_i u 12 v1))) ∧ (¬ (sg_i u 7) ≤ (sg_i u 6) → (wp_F_keep (sg_i u 7) (ss_i u 12 v1) (fun s3 => (((sg_i s3 9) = 0 ∨ (sg_i s3 9) = 1) ∧ post (sg_i s3 9) s3)))))
def wp_S_slotWithFewest_100 (post : Int32 → zz_St → Prop) (kn14 : Int32 → Int32 → Int32 → Int32 → zz_St → Prop) (x2 : Int32) (x3 : Int32) (x4 : Int32) (x5 : Int32) (u : zz_St) : Prop :=
  kn14 x2 x3 x4 (x5 + 1) u
def wp_S_slotWithFewest_14 (post : Int32 → zz_St → Prop) (kn14 : Int32 → Int32 → Int32 → Int32 → zz_St → Prop) (x2 : Int32) (x3 : Int32) (x4 : Int32) (x5 : Int32) (u : zz_St) : Prop :=
  ((sg_i u 3) ≤ x5 → (post x3 u)) ∧ (¬ (sg_i u 3) ≤ x5 → ((x2 ≤ 0 → (post x3 u)) ∧ (¬ x2 ≤ 0 → (vp_in x5 24 ∧ (((sg_a u 16 x5.toNatClampNeg) = (-1) → (vp_in (x4 + x5) 600 ∧ (wp_JL_bitCount ((sg_b u 4 (x4 + x5).toNatClampNeg) &&& ((sg_l u 0) ^^^ (-1))) u (fun r6 s5 => (vp_in (x4 + x5) 600 ∧ (wp_JL_bitCount ((sg_b s5 5 (x4 + x5).toNatClampNeg) &&& ((sg_l s5 1) ^^^ (-1))) s5 (fun r8 s7 => (∀ v9 : Int32, v9 = r6 + r8 → ((x2 ≤ v9 → (wp_S_slotWithFewest_100 post kn14 x2 x3 x4 x5 s7)) ∧ (¬ x2 ≤ v9 → (wp_S_slotWithFewest_100 post kn14 v9 x5 x4 x5 s7))))))))))) ∧ (¬ (sg_a u 16 x5.toNatClampNeg) = (-1) → (wp_S_slotWithFewest_100 post kn14 x2 x3 x4 x5 u)))))))
def wp_S_slotWithFewest_14_f (post : Int32 → zz_St → Prop) : Nat → Int32 → Int32 → Int32 → Int32 → zz_St → Prop
  | 0 => fun _ _ _ _ _ => False
  | n + 1 => wp_S_slotWithFewest_14 post (wp_S_slotWithFewest_14_f post n)
def wp_S_slotWithFewest (a0 : Int32) (u : zz_St) (post : Int32 → zz_St → Prop) : Prop :=
  ∀ v1 : Int32, v1 = a0 * 24 → (∃ n : Nat, wp_S_slotWithFewest_14_f post  n 81 (-1) v1 0 u)
def wp_S_narrowCrossing_155 (post : zz_St → Prop) (kn73 : Int32 → Int32 → Int32 → Int32 → Int32 → zz_St → Prop) (x2 : Int32) (x3 : Int32) (x5 : Int32) (x6 : Int32) (x7 : Int32) (u : zz_St) : Prop :=
  kn73 x2 x3 x5 x6 (x7 + 1) u
def wp_S_narrowCrossing_73 (post : zz_St → Prop) (kn73 : Int32 → Int32 → Int32 → Int32 → Int32 → zz_St → Prop) (x2 : Int32) (x3 : Int32) (x5 : Int32) (x6 : Int32) (x7 : Int32) (u : zz_St) : Prop :=
  vp_in x2 24 ∧ (((sg_a u 3 x2.toNatClampNeg) ≤ x7 → (post u)) ∧ (¬ (sg_a u 3 x2.toNatClampNeg) ≤ x7 → (wp_G_cellOf x2 x7 u (fun r6 s5 => (wp_G_slotAt r6 x6 s5 (fun r8 s7 => ((r8 = (-1) → (wp_S_narrowCrossing_155 post kn73 x2 x3 x5 x6 x7 s7)) ∧ (¬ r8 = (-1) → (wp_G_placeAt r6 x6 s7 (fun r11 s10 => (wp_L_letterOf x3 x7 s10 (fun r13 s12 => (wp_L_keyOf r11 r13 s12 (fun r15 s14 => (wp_S_narrow (x5 + r8) r15 s14 (fun s16 => (wp_S_narrowCrossing_155 post kn73 x2 x3 x5 x6 x7 s16)))))))))))))))))
def wp_S_narrowCrossing_73_f (post : zz_St → Prop) : Nat → Int32 → Int32 → Int32 → Int32 → Int32 → zz_St → Prop
  | 0 => fun _ _ _ _ _ _ => False
  | n + 1 => wp_S_narrowCrossing_73 post (wp_S_narrowCrossing_73_f post n)
def wp_S_narrowCrossing (a0 : Int32) (a1 : Int32) (a2 : Int32) (u : zz_St) (post : zz_St → Prop) : Prop :=
  ∀ v1 : Int32, v1 = a0 * 24 → (∀ v2 : Int32, v2 = v1 + 24 → ((¬ v1 < 0) ∧ (¬ v2 < 0) ∧ (¬ (sg_i u 3) < 0) ∧ v1.toNatClampNeg + (sg_i u 3).toNatClampNeg ≤ 600 ∧ v2.toNatClampNeg + (sg_i u 3).toNatClampNeg ≤ 600 ∧ ((¬ v1 < 0) ∧ (¬ v2 < 0) ∧ (¬ (sg_i u 3) < 0) ∧ v1.toNatClampNeg + (sg_i u 3).toNatClampNeg ≤ 600 ∧ v2.toNatClampNeg + (sg_i u 3).toNatClampNeg ≤ 600 ∧ (vp_in a1 24 ∧ (∀ v3 : Int32, v3 = 1 - (sg_a u 4 a1.toNatClampNeg) → (∃ n : Nat, wp_S_narrowCrossing_73_f post  n a1 a2 v2 v3 0 (ss_b (ss_b u 4 (va_cpy (sg_b u 4) (sg_b u 4) v1.toNatClampNeg v2.toNatClampNeg (sg_i u 3).toNatClampNeg)) 5 (va_cpy (sg_b u 5) (sg_b u 5) v1.toNatClampNeg v2.toNatClampNeg (sg_i u 3).toNatClampNeg))))))))
def wp_X_black (a0 : Int32) (a1 : Int32) (a2 : Int32) (u : zz_St) (post : Int32 → zz_St → Prop) : Prop :=
  wp_G_cellAt a0 a1 u (fun r2 s1 => ((r2 = (-1) → (post 0 s1)) ∧ (¬ r2 = (-1) → (vp_in r2 36 ∧ (((sg_a s1 0 r2.toNatClampNeg) = a2 → (post 0 s1)) ∧ (¬ (sg_a s1 0 r2.toNatClampNeg) = a2 → (wp_G_paint r2 a2 s1 (fun s5 => (wp_F_forget s5 (fun s6 => (post 1 s6)))))))))))
def wp_X_isLetter (a0 : Int32) (u : zz_St) (post : Int32 → zz_St → Prop) : Prop :=
  (a0 < 97 → (post 0 u)) ∧ (¬ a0 < 97 → ((122 < a0 → (post 0 u)) ∧ (¬ 122 < a0 → (post 1 u))))
def wp_X_unit (a0 : Int32) (u : zz_St) (post : Int32 → zz_St → Prop) : Prop :=
  wp_X_isLetter a0 u (fun r2 s1 => ((r2 = 0 → (post 0 s1)) ∧ (¬ r2 = 0 → (wp_L_collect a0 s1 (fun r5 s4 => ((r5 = 0 → (post 0 s4)) ∧ (¬ r5 = 0 → (post 1 s4))))))))
def wp_X_word (a0 : Int32) (u : zz_St) (post : Int32 → zz_St → Prop) : Prop :=
  wp_L_wordFromCollected a0 u (fun r2 s1 => (wp_L_dropCollected s1 (fun s3 => (post r2 s3))))
def wp_X_given_43 (post : Int32 → zz_St → Prop) (x3 : Int32) (x4 : Int32) (u : zz_St) : Prop :=
  (vp_in x4 36 ∧ (post 1 (ss_a u 1 (upd (sg_a u 1) x4.toNatClampNeg x3))))
def wp_X_given (a0 : Int32) (a1 : Int32) (a2 : Int32) (u : zz_St) (post : Int32 → zz_St → Prop) : Prop :=
  wp_G_cellAt a0 a1 u (fun r2 s1 => ((r2 = (-1) → (post 0 s1)) ∧ (¬ r2 = (-1) → (vp_in r2 36 ∧ (((sg_a s1 0 r2.toNatClampNeg) = 0 → ((a2 = 0 → (wp_X_given_43 post a2 r2 s1)) ∧ (¬ a2 = 0 → (wp_X_isLetter a2 s1 (fun r7 s6 => ((r7 = 0 → (post 0 s6)) ∧ (¬ r7 = 0 → (wp_X_given_43 post a2 r2 s6)))))))) ∧ (¬ (sg_a s1 0 r2.toNatClampNeg) = 0 → (post 0 s1)))))))
def wp_X_theme_52 (post : Int32 → zz_St → Prop) (x1 : Int32) (x2 : Int32) (u : zz_St) : Prop :=
  (vp_in x1 24 ∧ (post 1 (ss_a u 5 (upd (sg_a u 5) x1.toNatClampNeg x2))))
def wp_X_theme (a0 : Int32) (a1 : Int32) (u : zz_St) (post : Int32 → zz_St → Prop) : Prop :=
  wp_G_hasSlot a0 u (fun r2 s1 => ((r2 = 0 → (post 0 s1)) ∧ (¬ r2 = 0 → ((a1 = (-1) → (wp_X_theme_52 post a0 a1 s1)) ∧ (¬ a1 = (-1) → (wp_L_hasWord a1 s1 (fun r6 s5 => ((r6 = 0 → (post 0 s5)) ∧ (¬ r6 = 0 → (vp_in a1 80 ∧ (vp_in a0 24 ∧ (((sg_a s5 9 a1.toNatClampNeg) = (sg_a s5 3 a0.toNatClampNeg) → (wp_X_theme_52 post a0 a1 s5)) ∧ (¬ (sg_a s5 9 a1.toNatClampNeg) = (sg_a s5 3 a0.toNatClampNeg) → (post 0 s5))))))))))))))
def wp_X_slots (u : zz_St) (post : Int32 → zz_St → Prop) : Prop :=
  post (sg_i u 3) u
def wp_X_slot (a0 : Int32) (a1 : Int32) (u : zz_St) (post : Int32 → zz_St → Prop) : Prop :=
  wp_G_hasSlot a0 u (fun r2 s1 => ((r2 = 0 → (post (-1) s1)) ∧ (¬ r2 = 0 → ((a1 = 0 → (vp_in a0 24 ∧ (post (sg_a s1 2 a0.toNatClampNeg) s1))) ∧ (a1 = 1 → (vp_in a0 24 ∧ (post (sg_a s1 3 a0.toNatClampNeg) s1))) ∧ (a1 = 2 → (vp_in a0 24 ∧ (post (sg_a s1 4 a0.toNatClampNeg) s1))) ∧ (a1 = 3 → (vp_in a0 24 ∧ (post (sg_a s1 5 a0.toNatClampNeg) s1))) ∧ (a1 = 4 → (wp_S_countAtStart a0 s1 (fun r5 s4 => (post r5 s4)))) ∧ (a1 = 5 → (wp_F_wordOf a0 s1 (fun r7 s6 => (post r7 s6)))) ∧ ((a1.toInt < 0 ∨ 5 < a1.toInt) → (post (-1) s1))))))
def wp_X_steps (u : zz_St) (post : Int32 → zz_St → Prop) : Prop :=
  post (sg_i u 11) u
def wp_X_many (u : zz_St) (post : Int32 → zz_St → Prop) : Prop :=
  post (sg_i u 12) u
def wp_X_score (u : zz_St) (post : Int32 → zz_St → Prop) : Prop :=
  post (sg_i u 6) u
def wp_X_letter (a0 : Int32) (a1 : Int32) (u : zz_St) (post : Int32 → zz_St → Prop) : Prop :=
  wp_G_cellAt a0 a1 u (fun r2 s1 => ((r2 = (-1) → (post (-1) s1)) ∧ (¬ r2 = (-1) → (wp_F_letterAt r2 s1 (fun r5 s4 => (post r5 s4))))))
def wp_X_check (u : zz_St) (post : Int32 → zz_St → Prop) : Prop :=
  wp_F_firstFault u (fun r2 s1 => (post r2 s1))
def wp_X_alike_33 (post : Int32 → zz_St → Prop) (x1 : Int32) (u : zz_St) : Prop :=
  wp_G_looksTheSame x1 u (fun r6 s5 => ((r6 = 0 ∨ r6 = 1) ∧ post r6 s5))
def wp_X_alike (a0 : Int32) (u : zz_St) (post : Int32 → zz_St → Prop) : Prop :=
  (a0 < 0 → (post 0 u)) ∧ (¬ a0 < 0 → ((3 < a0 → (post 0 u)) ∧ (¬ 3 < a0 → ((a0 = 3 → (((sg_i u 0) = (sg_i u 1) → (wp_X_alike_33 post  a0 u)) ∧ (¬ (sg_i u 0) = (sg_i u 1) → (post 0 u)))) ∧ (¬ a0 = 3 → (wp_X_alike_33 post  a0 u))))))
def wp_X_parts (u : zz_St) (post : Int32 → zz_St → Prop) : Prop :=
  wp_G_countParts u (fun r2 s1 => (post r2 s1))
def wp_X_isStepLimit (a0 : Int32) (u : zz_St) (post : Int32 → zz_St → Prop) : Prop :=
  (a0 < 0 → (post 0 u)) ∧ (¬ a0 < 0 → ((20000 < a0 → (post 0 u)) ∧ (¬ 20000 < a0 → (post 1 u))))
def wp_S_tryWord (WF : Int32 → zz_St → (Int32 → zz_St → Prop) → Prop) (a0 : Int32) (a1 : Int32) (a2 : Int32) (u : zz_St) (post : Int32 → zz_St → Prop) : Prop :=
  ((sg_i u 11) < (sg_i u 8) → (∀ v2 : Int32, v2 = (sg_i u 11) + 1 → (vp_in a2 80 ∧ (∀ v3 : Int32, v3 = sg_a u 11 a2.toNatClampNeg → ((vp_in a1 24 ∧ (wp_L_lowBit a2 (ss_a (ss_i u 11 v2) 16 (upd (sg_a u 16) a1.toNatClampNeg v3)) (fun r5 s4 => (∀ v6 : Int64, v6 = (sg_l u 0) ||| r5 → (wp_L_highBit a2 (ss_l s4 0 v6) (fun r8 s7 => (∀ v9 : Int64, v9 = (sg_l s4 1) ||| r8 → (vp_in v3 80 ∧ (∀ v10 : Int32, v10 = (sg_i s7 7) + (sg_a s7 10 v3.toNatClampNeg) → (wp_S_narrowCrossing a0 a1 v3 (ss_i (ss_l s7 1 v9) 7 v10) (fun s11 => (WF (a0 + 1) s11 (fun r13 s12 => (vp_in v3 80 ∧ (∀ v14 : Int32, v14 = (sg_i s12 7) - (sg_a s12 10 v3.toNatClampNeg) → (wp_L_lowBit a2 (ss_i s12 7 v14) (fun r16 s15 => (∀ v17 : Int64, v17 = (sg_l s12 0) &&& (r16 ^^^ (-1)) → (wp_L_highBit a2 (ss_l s15 0 v17) (fun r19 s18 => (∀ v20 : Int64, v20 = (sg_l s15 1) &&& (r19 ^^^ (-1)) → ((vp_in a1 24 ∧ ((r13 = 0 ∨ r13 = 1) ∧ post r13 (ss_a (ss_l s18 1 v20) 16 (upd (sg_a s18 16) a1.toNatClampNeg (-1)))))))))))))))))))))))))))))))) ∧ (¬ (sg_i u 11) < (sg_i u 8) → (post 0 (ss_i u 10 1)))
def wp_S_fillFrom_153 (WF : Int32 → zz_St → (Int32 → zz_St → Prop) → Prop) (post : Int32 → zz_St → Prop) (kn86 : Int32 → Int32 → Int64 → Int64 → Int32 → Int32 → zz_St → Prop) (x1 : Int32) (x2 : Int32) (x4 : Int64) (x6 : Int64) (x8 : Int32) (x9 : Int32) (u : zz_St) : Prop :=
  kn86 x1 x2 x4 x6 x8 (x9 + (-1)) u
def wp_S_fillFrom_86 (WF : Int32 → zz_St → (Int32 → zz_St → Prop) → Prop) (post : Int32 → zz_St → Prop) (kn86 : Int32 → Int32 → Int64 → Int64 → Int32 → Int32 → zz_St → Prop) (x1 : Int32) (x2 : Int32) (x4 : Int64) (x6 : Int64) (x8 : Int32) (x9 : Int32) (u : zz_St) : Prop :=
  (x9 ≤ 0 → ((x8 = 0 ∨ x8 = 1) ∧ post x8 u)) ∧ (¬ x9 ≤ 0 → ((x8 = 0 → ((x8 = 0 ∨ x8 = 1) ∧ post x8 u)) ∧ (¬ x8 = 0 → (((lg_cmp x4 0) = 0 → (wp_S_lowestBit x6 u (fun r19 s18 => (wp_S_tryWord WF x1 x2 (64 + r19) s18 (fun r21 s20 => (∀ v22 : Int64, v22 = x6 &&& (x6 - 1) → (wp_S_fillFrom_153 WF post kn86 x1 x2 x4 v22 r21 x9 s20))))))) ∧ (¬ (lg_cmp x4 0) = 0 → (wp_S_lowestBit x4 u (fun r24 s23 => (wp_S_tryWord WF x1 x2 r24 s23 (fun r26 s25 => (∀ v27 : Int64, v27 = x4 &&& (x4 - 1) → (wp_S_fillFrom_153 WF post kn86 x1 x2 v27 x6 r26 x9 s25)))))))))))
def wp_S_fillFrom_86_f (WF : Int32 → zz_St → (Int32 → zz_St → Prop) → Prop) (post : Int32 → zz_St → Prop) : Nat → Int32 → Int32 → Int64 → Int64 → Int32 → Int32 → zz_St → Prop
  | 0 => fun _ _ _ _ _ _ _ => False
  | n + 1 => wp_S_fillFrom_86 WF post (wp_S_fillFrom_86_f WF post n)
def wp_S_fillB (WF : Int32 → zz_St → (Int32 → zz_St → Prop) → Prop) (a0 : Int32) (u : zz_St) (post : Int32 → zz_St → Prop) : Prop :=
  (a0 < (sg_i u 3) → (wp_S_slotWithFewest a0 u (fun r3 s2 => ((r3 = (-1) → (post 1 s2)) ∧ (¬ r3 = (-1) → (∀ v5 : Int32, v5 = (a0 * 24) + r3 → (vp_in v5 600 ∧ (∀ v6 : Int64, v6 = (sg_b s2 4 v5.toNatClampNeg) &&& ((sg_l s2 0) ^^^ (-1)) → (vp_in v5 600 ∧ (∀ v7 : Int64, v7 = (sg_b s2 5 v5.toNatClampNeg) &&& ((sg_l s2 1) ^^^ (-1)) → (wp_JL_bitCount v6 s2 (fun r9 s8 => (wp_JL_bitCount v7 s8 (fun r11 s10 => (∀ v12 : Int32, v12 = r9 + r11 → (∃ n : Nat, wp_S_fillFrom_86_f WF post n a0 r3 v6 v7 1 v12 s10)))))))))))))))) ∧ (¬ a0 < (sg_i u 3) → (wp_S_takeFilling u (fun r14 s13 => ((r14 = 0 ∨ r14 = 1) ∧ post r14 s13))))
def wp_S_fillFrom : Nat → Int32 → zz_St → (Int32 → zz_St → Prop) → Prop
  | 0 => fun _ _ _ => False
  | d + 1 => wp_S_fillB (wp_S_fillFrom d)
def wp_S_seek (a0 : Int32) (a1 : Int32) (u : zz_St) (post : Int32 → zz_St → Prop) : Prop :=
  (a1 = 0 ∨ a1 = 1) ∧ (wp_F_forget (ss_i (ss_i (ss_i (ss_i (ss_i (ss_i u 8 a0) 9 a1) 10 0) 11 0) 12 0) 7 0) (fun s1 => (wp_S_clearSlots s1 (fun s2 => (wp_S_fillFrom 26 0 s2 (fun r4 s3 => (((sg_i s3 10) = 0 → (((sg_i s3 12) ≤ 0 → (post 1 s3)) ∧ (¬ (sg_i s3 12) ≤ 0 → (post 0 s3)))) ∧ (¬ (sg_i s3 10) = 0 → (post 2 s3)))))))))
def wp_X_run (a0 : Int32) (u : zz_St) (post : Int32 → zz_St → Prop) : Prop :=
  wp_X_isStepLimit a0 u (fun r2 s1 => ((r2 = 0 → (post (-1) s1)) ∧ (¬ r2 = 0 → (wp_S_seek a0 0 s1 (fun r5 s4 => (post r5 s4))))))
def wp_X_best (a0 : Int32) (u : zz_St) (post : Int32 → zz_St → Prop) : Prop :=
  wp_X_isStepLimit a0 u (fun r2 s1 => ((r2 = 0 → (post (-1) s1)) ∧ (¬ r2 = 0 → (wp_S_seek a0 1 s1 (fun r5 s4 => (post r5 s4))))))
end
section
def wp_M_isCell (a0 : Int32) (a1 : Int32) (u : zz_St) (post : Int32 → zz_St → Prop) : Prop :=
  (a0 < 0 → (post 0 u)) ∧ (¬ a0 < 0 → (((sg_i u 1) ≤ a0 → (post 0 u)) ∧ (¬ (sg_i u 1) ≤ a0 → ((a1 < 0 → (post 0 u)) ∧ (¬ a1 < 0 → (((sg_i u 2) ≤ a1 → (post 0 u)) ∧ (¬ (sg_i u 2) ≤ a1 → (post 1 u))))))))
def wp_M_isOpen (a0 : Int32) (a1 : Int32) (u : zz_St) (post : Int32 → zz_St → Prop) : Prop :=
  wp_M_isCell a0 a1 u (fun r2 s1 => ((r2 = 0 → (post 0 s1)) ∧ (¬ r2 = 0 → (vp_in (((sg_i s1 1) * a1) + a0) 36 ∧ (((sg_a s1 0 (((sg_i s1 1) * a1) + a0).toNatClampNeg) = 0 → (post 1 s1)) ∧ (¬ (sg_a s1 0 (((sg_i s1 1) * a1) + a0).toNatClampNeg) = 0 → (post 0 s1)))))))
def wp_M_findSlots_171 (post : zz_St → Prop) (kn7 : Int32 → zz_St → Prop) (kn22 : Int32 → Int32 → zz_St → Prop) (x1 : Int32) (x2 : Int32) (u : zz_St) : Prop :=
  kn22 x1 (x2 + 1) u
def wp_M_findSlots_150 (post : zz_St → Prop) (kn7 : Int32 → zz_St → Prop) (kn22 : Int32 → Int32 → zz_St → Prop) (x1 : Int32) (x2 : Int32) (y0 : Int32) (y1 : Int32) (u : zz_St) : Prop :=
  (vp_in y1 36 ∧ ((vp_in (sg_i u 5) 36 ∧ (∀ v15 : Int32, v15 = (sg_i u 5) + 1 → (wp_M_findSlots_171 post kn7 kn22 x1 x2 (ss_i (ss_a (ss_a u 8 (upd (sg_a u 8) y1.toNatClampNeg y0)) 9 (upd (sg_a u 9) (sg_i u 5).toNatClampNeg (-1))) 5 v15))))))
def wp_M_findSlots_58 (post : zz_St → Prop) (kn7 : Int32 → zz_St → Prop) (kn22 : Int32 → Int32 → zz_St → Prop) (kn58 : Int32 → Int32 → Int32 → Int32 → Int32 → Int32 → zz_St → Prop) (x1 : Int32) (x2 : Int32) (x3 : Int32) (x4 : Int32) (x5 : Int32) (x6 : Int32) (u : zz_St) : Prop :=
  wp_M_isOpen (x3 + (x6 * x5)) (x4 + (x6 * x1)) u (fun r8 s7 => ((r8 = 0 → ((x6 < 2 → (wp_M_findSlots_171 post kn7 kn22 x1 x2 s7)) ∧ (¬ x6 < 2 → (wp_M_isOpen (x3 - x5) (x4 - x1) s7 (fun r12 s11 => ((r12 = 0 → ((vp_in (sg_i s11 5) 36 ∧ ((vp_in (sg_i s11 5) 36 ∧ ((x1 = 0 → (wp_M_findSlots_150 post kn7 kn22 x1 x2 1 (sg_i s11 5) (ss_a (ss_a s11 6 (upd (sg_a s11 6) (sg_i s11 5).toNatClampNeg x2)) 7 (upd (sg_a s11 7) (sg_i s11 5).toNatClampNeg x6)))) ∧ (¬ x1 = 0 → (wp_M_findSlots_150 post kn7 kn22 x1 x2 (sg_i s11 1) (sg_i s11 5) (ss_a (ss_a s11 6 (upd (sg_a s11 6) (sg_i s11 5).toNatClampNeg x2)) 7 (upd (sg_a s11 7) (sg_i s11 5).toNatClampNeg x6)))))))))) ∧ (¬ r12 = 0 → (wp_M_findSlots_171 post kn7 kn22 x1 x2 s11)))))))) ∧ (¬ r8 = 0 → (kn58 x1 x2 x3 x4 x5 (x6 + 1) s7))))
def wp_M_findSlots_58_f (post : zz_St → Prop) (kn7 : Int32 → zz_St → Prop) (kn22 : Int32 → Int32 → zz_St → Prop) : Nat → Int32 → Int32 → Int32 → Int32 → Int32 → Int32 → zz_St → Prop
  | 0 => fun _ _ _ _ _ _ _ => False
  | n + 1 => wp_M_findSlots_58 post kn7 kn22 (wp_M_findSlots_58_f post kn7 kn22 n)
def wp_M_findSlots_22 (post : zz_St → Prop) (kn7 : Int32 → zz_St → Prop) (kn22 : Int32 → Int32 → zz_St → Prop) (x1 : Int32) (x2 : Int32) (u : zz_St) : Prop :=
  (((sg_i u 1) * (sg_i u 2)) ≤ x2 → (kn7 (x1 + 1) u)) ∧ (¬ ((sg_i u 1) * (sg_i u 2)) ≤ x2 → ((¬ (sg_i u 1) = 0) ∧ (∀ v4 : Int32, v4 = x2 - x2 / (sg_i u 1) * (sg_i u 1) → ((¬ (sg_i u 1) = 0) ∧ (∀ v5 : Int32, v5 = x2 / (sg_i u 1) → (∀ v6 : Int32, v6 = 1 - x1 → (∃ n : Nat, wp_M_findSlots_58_f post kn7 kn22 n x1 x2 v4 v5 v6 0 u)))))))
def wp_M_findSlots_22_f (post : zz_St → Prop) (kn7 : Int32 → zz_St → Prop) : Nat → Int32 → Int32 → zz_St → Prop
  | 0 => fun _ _ _ => False
  | n + 1 => wp_M_findSlots_22 post kn7 (wp_M_findSlots_22_f post kn7 n)
def wp_M_findSlots_7 (post : zz_St → Prop) (kn7 : Int32 → zz_St → Prop) (x1 : Int32) (u : zz_St) : Prop :=
  (2 ≤ x1 → (post u)) ∧ (¬ 2 ≤ x1 → (∀ v2 : Int32, v2 = sg_i u 5 → (∃ n : Nat, wp_M_findSlots_22_f post kn7 n x1 0 (ss_i u 6 v2))))
def wp_M_findSlots_7_f (post : zz_St → Prop) : Nat → Int32 → zz_St → Prop
  | 0 => fun _ _ => False
  | n + 1 => wp_M_findSlots_7 post (wp_M_findSlots_7_f post n)
def wp_M_findSlots (u : zz_St) (post : zz_St → Prop) : Prop :=
  ∃ n : Nat, wp_M_findSlots_7_f post  n 0 (ss_i u 5 0)
def wp_M_black_50 (post : Int32 → zz_St → Prop) (kn50 : Int32 → zz_St → Prop) (x4 : Int32) (u : zz_St) : Prop :=
  (36 ≤ x4 → (wp_M_findSlots (ss_i u 7 0) (fun s6 => (post 1 s6)))) ∧ (¬ 36 ≤ x4 → ((vp_in x4 36 ∧ (kn50 (x4 + 1) (ss_a u 1 (upd (sg_a u 1) x4.toNatClampNeg 0))))))
def wp_M_black_50_f (post : Int32 → zz_St → Prop) : Nat → Int32 → zz_St → Prop
  | 0 => fun _ _ => False
  | n + 1 => wp_M_black_50 post (wp_M_black_50_f post n)
def wp_M_black (a0 : Int32) (a1 : Int32) (a2 : Int32) (u : zz_St) (post : Int32 → zz_St → Prop) : Prop :=
  wp_M_isCell a0 a1 (ss_i u 0 0) (fun r2 s1 => ((r2 = 0 → (post 0 s1)) ∧ (¬ r2 = 0 → (vp_in (((sg_i s1 1) * a1) + a0) 36 ∧ (((sg_a s1 0 (((sg_i s1 1) * a1) + a0).toNatClampNeg) = a2 → (post 0 s1)) ∧ (¬ (sg_a s1 0 (((sg_i s1 1) * a1) + a0).toNatClampNeg) = a2 → ((vp_in (((sg_i s1 1) * a1) + a0) 36 ∧ ((a2 = 0 ∨ a2 = 1) ∧ ∃ n : Nat, wp_M_black_50_f post n 0 (ss_a s1 0 (upd (sg_a s1 0) (((sg_i s1 1) * a1) + a0).toNatClampNeg a2)))))))))))
def wp_M_isSlot (a0 : Int32) (u : zz_St) (post : Int32 → zz_St → Prop) : Prop :=
  (a0 < 0 → (post 0 u)) ∧ (¬ a0 < 0 → (((sg_i u 5) ≤ a0 → (post 0 u)) ∧ (¬ (sg_i u 5) ≤ a0 → (post 1 u))))
def wp_M_cellOf (a0 : Int32) (a1 : Int32) (u : zz_St) (post : Int32 → zz_St → Prop) : Prop :=
  vp_in a0 36 ∧ (vp_in a0 36 ∧ (post ((sg_a u 6 a0.toNatClampNeg) + (a1 * (sg_a u 8 a0.toNatClampNeg))) u))
def wp_M_isLetter (a0 : Int32) (u : zz_St) (post : Int32 → zz_St → Prop) : Prop :=
  (a0 < 97 → (post 0 u)) ∧ (¬ a0 < 97 → ((122 < a0 → (post 0 u)) ∧ (¬ 122 < a0 → (post 1 u))))
def wp_M_unit (a0 : Int32) (u : zz_St) (post : Int32 → zz_St → Prop) : Prop :=
  wp_M_isLetter a0 (ss_i u 0 0) (fun r2 s1 => ((r2 = 0 → (post 0 s1)) ∧ (¬ r2 = 0 → (((sg_i s1 3) = 6 → (post 0 s1)) ∧ (¬ (sg_i s1 3) = 6 → ((vp_in (sg_i s1 3) 6 ∧ (∀ v5 : Int32, v5 = (sg_i s1 3) + 1 → (post 1 (ss_i (ss_a s1 2 (upd (sg_a s1 2) (sg_i s1 3).toNatClampNeg a0)) 3 v5))))))))))
def wp_M_isRow_17 (post : Int32 → zz_St → Prop) (kn17 : Int32 → Int32 → zz_St → Prop) (x1 : Int32) (x2 : Int32) (u : zz_St) : Prop :=
  ((sg_i u 3) ≤ x2 → (post 1 u)) ∧ (¬ (sg_i u 3) ≤ x2 → (vp_in ((6 * x1) + x2) 480 ∧ (vp_in x2 6 ∧ (((sg_a u 4 ((6 * x1) + x2).toNatClampNeg) = (sg_a u 2 x2.toNatClampNeg) → (kn17 x1 (x2 + 1) u)) ∧ (¬ (sg_a u 4 ((6 * x1) + x2).toNatClampNeg) = (sg_a u 2 x2.toNatClampNeg) → (post 0 u))))))
def wp_M_isRow_17_f (post : Int32 → zz_St → Prop) : Nat → Int32 → Int32 → zz_St → Prop
  | 0 => fun _ _ _ => False
  | n + 1 => wp_M_isRow_17 post (wp_M_isRow_17_f post n)
def wp_M_isRow (a0 : Int32) (u : zz_St) (post : Int32 → zz_St → Prop) : Prop :=
  vp_in a0 80 ∧ (((sg_a u 3 a0.toNatClampNeg) = (sg_i u 3) → (∃ n : Nat, wp_M_isRow_17_f post  n a0 0 u)) ∧ (¬ (sg_a u 3 a0.toNatClampNeg) = (sg_i u 3) → (post 0 u)))
def wp_M_enter_58 (post : Int32 → zz_St → Prop) (kn58 : Int32 → Int32 → zz_St → Prop) (x1 : Int32) (x2 : Int32) (u : zz_St) : Prop :=
  ((sg_i u 3) ≤ x2 → (∀ v10 : Int32, v10 = sg_i u 3 → (vp_in (sg_i u 4) 80 ∧ ((vp_in (sg_i u 4) 80 ∧ (∀ v11 : Int32, v11 = (sg_i u 4) + 1 → (post (v11 - 1) (ss_i (ss_a (ss_a u 3 (upd (sg_a u 3) (sg_i u 4).toNatClampNeg v10)) 5 (upd (sg_a u 5) (sg_i u 4).toNatClampNeg x1)) 4 v11)))))))) ∧ (¬ (sg_i u 3) ≤ x2 → (vp_in x2 6 ∧ (∀ v12 : Int32, v12 = sg_a u 2 x2.toNatClampNeg → (vp_in ((6 * (sg_i u 4)) + x2) 480 ∧ (kn58 x1 (x2 + 1) (ss_a u 4 (upd (sg_a u 4) ((6 * (sg_i u 4)) + x2).toNatClampNeg v12)))))))
def wp_M_enter_58_f (post : Int32 → zz_St → Prop) : Nat → Int32 → Int32 → zz_St → Prop
  | 0 => fun _ _ _ => False
  | n + 1 => wp_M_enter_58 post (wp_M_enter_58_f post n)
def wp_M_enter_32 (post : Int32 → zz_St → Prop) (kn32 : Int32 → Int32 → zz_St → Prop) (x1 : Int32) (x2 : Int32) (u : zz_St) : Prop :=
  ((sg_i u 4) ≤ x2 → (∃ n : Nat, wp_M_enter_58_f post  n x1 0 u)) ∧ (¬ (sg_i u 4) ≤ x2 → (wp_M_isRow x2 u (fun r7 s6 => ((r7 = 0 → (kn32 x1 (x2 + 1) s6)) ∧ (¬ r7 = 0 → (post (-1) s6))))))
def wp_M_enter_32_f (post : Int32 → zz_St → Prop) : Nat → Int32 → Int32 → zz_St → Prop
  | 0 => fun _ _ _ => False
  | n + 1 => wp_M_enter_32 post (wp_M_enter_32_f post n)
def wp_M_enter (a0 : Int32) (u : zz_St) (post : Int32 → zz_St → Prop) : Prop :=
  ((sg_i u 3) < 2 → (post (-1) u)) ∧ (¬ (sg_i u 3) < 2 → ((a0 < 0 → (post (-1) u)) ∧ (¬ a0 < 0 → ((1000 < a0 → (post (-1) u)) ∧ (¬ 1000 < a0 → (((sg_i u 4) = 80 → (post (-1) u)) ∧ (¬ (sg_i u 4) = 80 → (∃ n : Nat, wp_M_enter_32_f post  n a0 0 u))))))))
def wp_M_word (a0 : Int32) (u : zz_St) (post : Int32 → zz_St → Prop) : Prop :=
  wp_M_enter a0 (ss_i u 0 0) (fun r2 s1 => (post r2 (ss_i s1 3 0)))
def wp_M_given_27 (post : Int32 → zz_St → Prop) (x1 : Int32) (x2 : Int32) (x3 : Int32) (u : zz_St) : Prop :=
  (vp_in (((sg_i u 1) * x2) + x1) 36 ∧ (post 1 (ss_a u 1 (upd (sg_a u 1) (((sg_i u 1) * x2) + x1).toNatClampNeg x3))))
def wp_M_given (a0 : Int32) (a1 : Int32) (a2 : Int32) (u : zz_St) (post : Int32 → zz_St → Prop) : Prop :=
  wp_M_isOpen a0 a1 (ss_i u 0 0) (fun r2 s1 => ((r2 = 0 → (post 0 s1)) ∧ (¬ r2 = 0 → ((a2 = 0 → (wp_M_given_27 post a0 a1 a2 s1)) ∧ (¬ a2 = 0 → (wp_M_isLetter a2 s1 (fun r6 s5 => ((r6 = 0 → (post 0 s5)) ∧ (¬ r6 = 0 → (wp_M_given_27 post a0 a1 a2 s5))))))))))
def wp_M_theme_47 (post : Int32 → zz_St → Prop) (x1 : Int32) (x2 : Int32) (u : zz_St) : Prop :=
  (vp_in x1 36 ∧ (post 1 (ss_a u 9 (upd (sg_a u 9) x1.toNatClampNeg x2))))
def wp_M_theme (a0 : Int32) (a1 : Int32) (u : zz_St) (post : Int32 → zz_St → Prop) : Prop :=
  wp_M_isSlot a0 (ss_i u 0 0) (fun r2 s1 => ((r2 = 0 → (post 0 s1)) ∧ (¬ r2 = 0 → ((a1 = (-1) → (wp_M_theme_47 post a0 a1 s1)) ∧ (¬ a1 = (-1) → ((a1 < 0 → (post 0 s1)) ∧ (¬ a1 < 0 → (((sg_i s1 4) ≤ a1 → (post 0 s1)) ∧ (¬ (sg_i s1 4) ≤ a1 → (vp_in a1 80 ∧ (vp_in a0 36 ∧ (((sg_a s1 3 a1.toNatClampNeg) = (sg_a s1 7 a0.toNatClampNeg) → (wp_M_theme_47 post a0 a1 s1)) ∧ (¬ (sg_a s1 3 a1.toNatClampNeg) = (sg_a s1 7 a0.toNatClampNeg) → (post 0 s1))))))))))))))
def wp_M_slots (u : zz_St) (post : Int32 → zz_St → Prop) : Prop :=
  post (sg_i u 5) (ss_i u 0 0)
def wp_M_spell_94 (post : zz_St → Prop) (kn28 : Int32 → zz_St → Prop) (x1 : Int32) (u : zz_St) : Prop :=
  kn28 (x1 + 1) u
def wp_M_spell_51 (post : zz_St → Prop) (kn28 : Int32 → zz_St → Prop) (kn51 : Int32 → Int32 → zz_St → Prop) (x1 : Int32) (x2 : Int32) (u : zz_St) : Prop :=
  vp_in x1 36 ∧ (((sg_a u 7 x1.toNatClampNeg) ≤ x2 → (wp_M_spell_94 post kn28 x1 u)) ∧ (¬ (sg_a u 7 x1.toNatClampNeg) ≤ x2 → (wp_M_cellOf x1 x2 u (fun r7 s6 => (vp_in x1 36 ∧ (vp_in ((6 * (sg_a s6 10 x1.toNatClampNeg)) + x2) 480 ∧ (∀ v8 : Int32, v8 = sg_a s6 4 ((6 * (sg_a s6 10 x1.toNatClampNeg)) + x2).toNatClampNeg → (vp_in r7 36 ∧ (kn51 x1 (x2 + 1) (ss_a s6 12 (upd (sg_a s6 12) r7.toNatClampNeg v8)))))))))))
def wp_M_spell_51_f (post : zz_St → Prop) (kn28 : Int32 → zz_St → Prop) : Nat → Int32 → Int32 → zz_St → Prop
  | 0 => fun _ _ _ => False
  | n + 1 => wp_M_spell_51 post kn28 (wp_M_spell_51_f post kn28 n)
def wp_M_spell_28 (post : zz_St → Prop) (kn28 : Int32 → zz_St → Prop) (x1 : Int32) (u : zz_St) : Prop :=
  ((sg_i u 5) ≤ x1 → (post u)) ∧ (¬ (sg_i u 5) ≤ x1 → (vp_in x1 36 ∧ (((sg_a u 10 x1.toNatClampNeg) = (-1) → (wp_M_spell_94 post kn28 x1 u)) ∧ (¬ (sg_a u 10 x1.toNatClampNeg) = (-1) → (∃ n : Nat, wp_M_spell_51_f post kn28 n x1 0 u)))))
def wp_M_spell_28_f (post : zz_St → Prop) : Nat → Int32 → zz_St → Prop
  | 0 => fun _ _ => False
  | n + 1 => wp_M_spell_28 post (wp_M_spell_28_f post n)
def wp_M_spell_2 (post : zz_St → Prop) (kn2 : Int32 → zz_St → Prop) (x1 : Int32) (u : zz_St) : Prop :=
  (36 ≤ x1 → (∃ n : Nat, wp_M_spell_28_f post  n 0 u)) ∧ (¬ 36 ≤ x1 → (vp_in x1 36 ∧ (∀ v2 : Int32, v2 = sg_a u 1 x1.toNatClampNeg → (vp_in x1 36 ∧ (kn2 (x1 + 1) (ss_a u 12 (upd (sg_a u 12) x1.toNatClampNeg v2)))))))
def wp_M_spell_2_f (post : zz_St → Prop) : Nat → Int32 → zz_St → Prop
  | 0 => fun _ _ => False
  | n + 1 => wp_M_spell_2 post (wp_M_spell_2_f post n)
def wp_M_spell (u : zz_St) (post : zz_St → Prop) : Prop :=
  ∃ n : Nat, wp_M_spell_2_f post  n 0 u
def wp_M_isUsed_2 (post : Int32 → zz_St → Prop) (kn2 : Int32 → Int32 → zz_St → Prop) (x1 : Int32) (x2 : Int32) (u : zz_St) : Prop :=
  ((sg_i u 5) ≤ x2 → (post 0 u)) ∧ (¬ (sg_i u 5) ≤ x2 → (vp_in x2 36 ∧ (((sg_a u 10 x2.toNatClampNeg) = x1 → (post 1 u)) ∧ (¬ (sg_a u 10 x2.toNatClampNeg) = x1 → (kn2 x1 (x2 + 1) u)))))
def wp_M_isUsed_2_f (post : Int32 → zz_St → Prop) : Nat → Int32 → Int32 → zz_St → Prop
  | 0 => fun _ _ _ => False
  | n + 1 => wp_M_isUsed_2 post (wp_M_isUsed_2_f post n)
def wp_M_isUsed (a0 : Int32) (u : zz_St) (post : Int32 → zz_St → Prop) : Prop :=
  ∃ n : Nat, wp_M_isUsed_2_f post  n a0 0 u
def wp_M_mayHave_93 (post : Int32 → zz_St → Prop) (kn47 : Int32 → Int32 → Int32 → zz_St → Prop) (x1 : Int32) (x2 : Int32) (x3 : Int32) (u : zz_St) : Prop :=
  kn47 x1 x2 (x3 + 1) u
def wp_M_mayHave_47 (post : Int32 → zz_St → Prop) (kn47 : Int32 → Int32 → Int32 → zz_St → Prop) (x1 : Int32) (x2 : Int32) (x3 : Int32) (u : zz_St) : Prop :=
  vp_in x1 36 ∧ (((sg_a u 7 x1.toNatClampNeg) ≤ x3 → (post 1 u)) ∧ (¬ (sg_a u 7 x1.toNatClampNeg) ≤ x3 → (wp_M_cellOf x1 x3 u (fun r9 s8 => (vp_in r9 36 ∧ (∀ v10 : Int32, v10 = sg_a s8 12 r9.toNatClampNeg → ((v10 = 0 → (wp_M_mayHave_93 post kn47 x1 x2 x3 s8)) ∧ (¬ v10 = 0 → (vp_in ((6 * x2) + x3) 480 ∧ ((v10 = (sg_a s8 4 ((6 * x2) + x3).toNatClampNeg) → (wp_M_mayHave_93 post kn47 x1 x2 x3 s8)) ∧ (¬ v10 = (sg_a s8 4 ((6 * x2) + x3).toNatClampNeg) → (post 0 s8))))))))))))
def wp_M_mayHave_47_f (post : Int32 → zz_St → Prop) : Nat → Int32 → Int32 → Int32 → zz_St → Prop
  | 0 => fun _ _ _ _ => False
  | n + 1 => wp_M_mayHave_47 post (wp_M_mayHave_47_f post n)
def wp_M_mayHave_35 (post : Int32 → zz_St → Prop) (x1 : Int32) (x2 : Int32) (u : zz_St) : Prop :=
  wp_M_isUsed x2 u (fun r5 s4 => ((r5 = 0 → (∃ n : Nat, wp_M_mayHave_47_f post n x1 x2 0 s4)) ∧ (¬ r5 = 0 → (post 0 s4))))
def wp_M_mayHave (a0 : Int32) (a1 : Int32) (u : zz_St) (post : Int32 → zz_St → Prop) : Prop :=
  vp_in a1 80 ∧ (vp_in a0 36 ∧ (((sg_a u 3 a1.toNatClampNeg) = (sg_a u 7 a0.toNatClampNeg) → (vp_in a0 36 ∧ (((sg_a u 9 a0.toNatClampNeg) = (-1) → (wp_M_mayHave_35 post  a0 a1 u)) ∧ (¬ (sg_a u 9 a0.toNatClampNeg) = (-1) → (vp_in a0 36 ∧ (((sg_a u 9 a0.toNatClampNeg) = a1 → (wp_M_mayHave_35 post  a0 a1 u)) ∧ (¬ (sg_a u 9 a0.toNatClampNeg) = a1 → (post 0 u)))))))) ∧ (¬ (sg_a u 3 a1.toNatClampNeg) = (sg_a u 7 a0.toNatClampNeg) → (post 0 u))))
def wp_M_countFor_27 (post : Int32 → zz_St → Prop) (kn4 : Int32 → Int32 → Int32 → zz_St → Prop) (x1 : Int32) (x3 : Int32) (y0 : Int32) (y1 : Int32) (u : zz_St) : Prop :=
  ∀ v5 : Int32, v5 = y1 + y0 → (kn4 x1 v5 (x3 + 1) u)
def wp_M_countFor_4 (post : Int32 → zz_St → Prop) (kn4 : Int32 → Int32 → Int32 → zz_St → Prop) (x1 : Int32) (x2 : Int32) (x3 : Int32) (u : zz_St) : Prop :=
  ((sg_i u 4) ≤ x3 → (post x2 u)) ∧ (¬ (sg_i u 4) ≤ x3 → (wp_M_mayHave x1 x3 u (fun r3 s2 => ((r3 = 0 → (wp_M_countFor_27 post kn4 x1 x3 0 x2 s2)) ∧ (¬ r3 = 0 → (wp_M_countFor_27 post kn4 x1 x3 1 x2 s2))))))
def wp_M_countFor_4_f (post : Int32 → zz_St → Prop) : Nat → Int32 → Int32 → Int32 → zz_St → Prop
  | 0 => fun _ _ _ _ => False
  | n + 1 => wp_M_countFor_4 post (wp_M_countFor_4_f post n)
def wp_M_countFor (a0 : Int32) (u : zz_St) (post : Int32 → zz_St → Prop) : Prop :=
  ∃ n : Nat, wp_M_countFor_4_f post  n a0 0 0 u
def wp_M_clearNow_2 (post : zz_St → Prop) (kn2 : Int32 → zz_St → Prop) (x1 : Int32) (u : zz_St) : Prop :=
  (36 ≤ x1 → (post u)) ∧ (¬ 36 ≤ x1 → ((vp_in x1 36 ∧ (kn2 (x1 + 1) (ss_a u 10 (upd (sg_a u 10) x1.toNatClampNeg (-1)))))))
def wp_M_clearNow_2_f (post : zz_St → Prop) : Nat → Int32 → zz_St → Prop
  | 0 => fun _ _ => False
  | n + 1 => wp_M_clearNow_2 post (wp_M_clearNow_2_f post n)
def wp_M_clearNow (u : zz_St) (post : zz_St → Prop) : Prop :=
  ∃ n : Nat, wp_M_clearNow_2_f post  n 0 u
def wp_M_slot (a0 : Int32) (a1 : Int32) (u : zz_St) (post : Int32 → zz_St → Prop) : Prop :=
  wp_M_isSlot a0 (ss_i u 0 0) (fun r2 s1 => ((r2 = 0 → (post (-1) s1)) ∧ (¬ r2 = 0 → ((a1 = 0 → (vp_in a0 36 ∧ (post (sg_a s1 6 a0.toNatClampNeg) s1))) ∧ (a1 = 1 → (vp_in a0 36 ∧ (post (sg_a s1 7 a0.toNatClampNeg) s1))) ∧ (a1 = 2 → (((sg_i s1 6) ≤ a0 → (post 1 s1)) ∧ (¬ (sg_i s1 6) ≤ a0 → (post 0 s1)))) ∧ (a1 = 3 → (vp_in a0 36 ∧ (post (sg_a s1 9 a0.toNatClampNeg) s1))) ∧ (a1 = 4 → (wp_M_clearNow s1 (fun s5 => (wp_M_spell s5 (fun s6 => (wp_M_countFor a0 s6 (fun r8 s7 => (post r8 s7)))))))) ∧ (a1 = 5 → (((sg_i s1 7) = 0 → (post (-1) s1)) ∧ (¬ (sg_i s1 7) = 0 → (vp_in a0 36 ∧ (post (sg_a s1 11 a0.toNatClampNeg) s1))))) ∧ ((a1.toInt < 0 ∨ 5 < a1.toInt) → (post (-1) s1))))))
def wp_M_isBefore (a0 : Int32) (a1 : Int32) (u : zz_St) (post : Int32 → zz_St → Prop) : Prop :=
  vp_in a0 80 ∧ (vp_in a1 80 ∧ (((sg_a u 5 a0.toNatClampNeg) = (sg_a u 5 a1.toNatClampNeg) → ((a1 ≤ a0 → (post 0 u)) ∧ (¬ a1 ≤ a0 → (post 1 u)))) ∧ (¬ (sg_a u 5 a0.toNatClampNeg) = (sg_a u 5 a1.toNatClampNeg) → (vp_in a0 80 ∧ (vp_in a1 80 ∧ (((sg_a u 5 a0.toNatClampNeg) ≤ (sg_a u 5 a1.toNatClampNeg) → (post 0 u)) ∧ (¬ (sg_a u 5 a0.toNatClampNeg) ≤ (sg_a u 5 a1.toNatClampNeg) → (post 1 u))))))))
def wp_M_open_58 (post : Int32 → zz_St → Prop) (kn12 : Int32 → Int32 → Int32 → Int32 → zz_St → Prop) (x1 : Int32) (x2 : Int32) (x3 : Int32) (x4 : Int32) (u : zz_St) : Prop :=
  kn12 x1 x2 x3 (x4 + 1) u
def wp_M_open_194 (post : Int32 → zz_St → Prop) (kn91 : Int32 → Int32 → Int32 → Int32 → zz_St → Prop) (x1 : Int32) (x2 : Int32) (x4 : Int32) (x5 : Int32) (u : zz_St) : Prop :=
  kn91 x1 x2 x4 (x5 + 1) u
def wp_M_open_177 (post : Int32 → zz_St → Prop) (kn91 : Int32 → Int32 → Int32 → Int32 → zz_St → Prop) (x1 : Int32) (x2 : Int32) (x4 : Int32) (x5 : Int32) (x6 : Int32) (u : zz_St) : Prop :=
  (vp_in ((80 * x1) + x6) 2960 ∧ (wp_M_open_194 post kn91 x1 x2 (x4 + 1) x5 (ss_a u 16 (upd (sg_a u 16) ((80 * x1) + x6).toNatClampNeg x5))))
def wp_M_open_117 (post : Int32 → zz_St → Prop) (kn91 : Int32 → Int32 → Int32 → Int32 → zz_St → Prop) (kn117 : Int32 → Int32 → Int32 → Int32 → Int32 → zz_St → Prop) (x1 : Int32) (x2 : Int32) (x4 : Int32) (x5 : Int32) (x6 : Int32) (u : zz_St) : Prop :=
  (x6 ≤ 0 → (wp_M_open_177 post kn91 x1 x2 x4 x5 x6 u)) ∧ (¬ x6 ≤ 0 → (vp_in (((80 * x1) + x6) - 1) 2960 ∧ (wp_M_isBefore x5 (sg_a u 16 (((80 * x1) + x6) - 1).toNatClampNeg) u (fun r14 s13 => ((r14 = 0 → (wp_M_open_177 post kn91 x1 x2 x4 x5 x6 s13)) ∧ (¬ r14 = 0 → (vp_in (((80 * x1) + x6) - 1) 2960 ∧ (∀ v16 : Int32, v16 = sg_a s13 16 (((80 * x1) + x6) - 1).toNatClampNeg → (vp_in ((80 * x1) + x6) 2960 ∧ (kn117 x1 x2 x4 x5 (x6 + (-1)) (ss_a s13 16 (upd (sg_a s13 16) ((80 * x1) + x6).toNatClampNeg v16))))))))))))
def wp_M_open_117_f (post : Int32 → zz_St → Prop) (kn91 : Int32 → Int32 → Int32 → Int32 → zz_St → Prop) : Nat → Int32 → Int32 → Int32 → Int32 → Int32 → zz_St → Prop
  | 0 => fun _ _ _ _ _ _ => False
  | n + 1 => wp_M_open_117 post kn91 (wp_M_open_117_f post kn91 n)
def wp_M_open_91 (post : Int32 → zz_St → Prop) (kn91 : Int32 → Int32 → Int32 → Int32 → zz_St → Prop) (x1 : Int32) (x2 : Int32) (x4 : Int32) (x5 : Int32) (u : zz_St) : Prop :=
  ((sg_i u 4) ≤ x5 → ((vp_in x1 37 ∧ (post 1 (ss_a u 14 (upd (sg_a u 14) x1.toNatClampNeg x4)))))) ∧ (¬ (sg_i u 4) ≤ x5 → (wp_M_mayHave x2 x5 u (fun r10 s9 => ((r10 = 0 → (wp_M_open_194 post kn91 x1 x2 x4 x5 s9)) ∧ (¬ r10 = 0 → (∃ n : Nat, wp_M_open_117_f post kn91 n x1 x2 x4 x5 x4 s9))))))
def wp_M_open_91_f (post : Int32 → zz_St → Prop) : Nat → Int32 → Int32 → Int32 → Int32 → zz_St → Prop
  | 0 => fun _ _ _ _ _ => False
  | n + 1 => wp_M_open_91 post (wp_M_open_91_f post n)
def wp_M_open_12 (post : Int32 → zz_St → Prop) (kn12 : Int32 → Int32 → Int32 → Int32 → zz_St → Prop) (x1 : Int32) (x2 : Int32) (x3 : Int32) (x4 : Int32) (u : zz_St) : Prop :=
  ((sg_i u 5) ≤ x4 → ((x2 = (-1) → (post 0 u)) ∧ (¬ x2 = (-1) → ((vp_in x1 37 ∧ ((vp_in x1 37 ∧ (∃ n : Nat, wp_M_open_91_f post  n x1 x2 0 0 (ss_a (ss_a u 13 (upd (sg_a u 13) x1.toNatClampNeg x2)) 15 (upd (sg_a u 15) x1.toNatClampNeg 0)))))))))) ∧ (¬ (sg_i u 5) ≤ x4 → (vp_in x4 36 ∧ (((sg_a u 10 x4.toNatClampNeg) = (-1) → (wp_M_countFor x4 u (fun r6 s5 => ((r6 < x3 → (wp_M_open_58 post kn12 x1 x4 r6 x4 s5)) ∧ (¬ r6 < x3 → (wp_M_open_58 post kn12 x1 x2 x3 x4 s5)))))) ∧ (¬ (sg_a u 10 x4.toNatClampNeg) = (-1) → (wp_M_open_58 post kn12 x1 x2 x3 x4 u)))))
def wp_M_open_12_f (post : Int32 → zz_St → Prop) : Nat → Int32 → Int32 → Int32 → Int32 → zz_St → Prop
  | 0 => fun _ _ _ _ _ => False
  | n + 1 => wp_M_open_12 post (wp_M_open_12_f post n)
def wp_M_open (a0 : Int32) (u : zz_St) (post : Int32 → zz_St → Prop) : Prop :=
  wp_M_spell u (fun s1 => (∃ n : Nat, wp_M_open_12_f post n a0 (-1) 81 0 s1))
def wp_M_sumNow_4 (post : Int32 → zz_St → Prop) (kn4 : Int32 → Int32 → zz_St → Prop) (x1 : Int32) (x2 : Int32) (u : zz_St) : Prop :=
  ((sg_i u 5) ≤ x2 → (post x1 u)) ∧ (¬ (sg_i u 5) ≤ x2 → (vp_in x2 36 ∧ (vp_in (sg_a u 10 x2.toNatClampNeg) 80 ∧ (∀ v2 : Int32, v2 = x1 + (sg_a u 5 (sg_a u 10 x2.toNatClampNeg).toNatClampNeg) → (kn4 v2 (x2 + 1) u)))))
def wp_M_sumNow_4_f (post : Int32 → zz_St → Prop) : Nat → Int32 → Int32 → zz_St → Prop
  | 0 => fun _ _ _ => False
  | n + 1 => wp_M_sumNow_4 post (wp_M_sumNow_4_f post n)
def wp_M_sumNow (u : zz_St) (post : Int32 → zz_St → Prop) : Prop :=
  ∃ n : Nat, wp_M_sumNow_4_f post  n 0 0 u
def wp_M_search_104 (post : Int32 → zz_St → Prop) (kn27 : Int32 → Int32 → Int32 → Int32 → Int32 → zz_St → Prop) (x1 : Int32) (x2 : Int32) (x3 : Int32) (x4 : Int32) (u : zz_St) : Prop :=
  (x2 = 0 → (post 0 u)) ∧ (¬ x2 = 0 → (kn27 x1 x2 x3 (x4 + (-1)) 0 u))
def wp_M_search_77 (post : Int32 → zz_St → Prop) (kn27 : Int32 → Int32 → Int32 → Int32 → Int32 → zz_St → Prop) (kn77 : Int32 → Int32 → Int32 → Int32 → Int32 → zz_St → Prop) (x1 : Int32) (x2 : Int32) (x3 : Int32) (x4 : Int32) (x6 : Int32) (u : zz_St) : Prop :=
  (36 ≤ x6 → (wp_M_search_104 post kn27 x1 x2 x3 x4 u)) ∧ (¬ 36 ≤ x6 → (vp_in x6 36 ∧ (∀ v15 : Int32, v15 = sg_a u 10 x6.toNatClampNeg → (vp_in x6 36 ∧ (kn77 x1 x2 x3 x4 (x6 + 1) (ss_a u 11 (upd (sg_a u 11) x6.toNatClampNeg v15)))))))
def wp_M_search_77_f (post : Int32 → zz_St → Prop) (kn27 : Int32 → Int32 → Int32 → Int32 → Int32 → zz_St → Prop) : Nat → Int32 → Int32 → Int32 → Int32 → Int32 → zz_St → Prop
  | 0 => fun _ _ _ _ _ _ => False
  | n + 1 => wp_M_search_77 post kn27 (wp_M_search_77_f post kn27 n)
def wp_M_search_119 (post : Int32 → zz_St → Prop) (kn27 : Int32 → Int32 → Int32 → Int32 → Int32 → zz_St → Prop) (x1 : Int32) (x2 : Int32) (x3 : Int32) (x4 : Int32) (u : zz_St) : Prop :=
  vp_in x4 37 ∧ ((vp_in (sg_a u 13 x4.toNatClampNeg) 36 ∧ (vp_in x4 37 ∧ (vp_in x4 37 ∧ (((sg_a u 15 x4.toNatClampNeg) = (sg_a u 14 x4.toNatClampNeg) → (kn27 x1 x2 x3 (x4 + (-1)) 0 (ss_a u 10 (upd (sg_a u 10) (sg_a u 13 x4.toNatClampNeg).toNatClampNeg (-1))))) ∧ (¬ (sg_a u 15 x4.toNatClampNeg) = (sg_a u 14 x4.toNatClampNeg) → (((sg_i u 8) = x1 → (post 2 (ss_a u 10 (upd (sg_a u 10) (sg_a u 13 x4.toNatClampNeg).toNatClampNeg (-1))))) ∧ (¬ (sg_i u 8) = x1 → (vp_in x4 37 ∧ (vp_in x4 37 ∧ (vp_in ((80 * x4) + (sg_a u 15 x4.toNatClampNeg)) 2960 ∧ (∀ v19 : Int32, v19 = sg_a u 16 ((80 * x4) + (sg_a u 15 x4.toNatClampNeg)).toNatClampNeg → (vp_in (sg_a u 13 x4.toNatClampNeg) 36 ∧ (vp_in x4 37 ∧ (∀ v20 : Int32, v20 = (sg_a u 15 x4.toNatClampNeg) + 1 → (vp_in x4 37 ∧ (∀ v21 : Int32, v21 = (sg_i u 8) + 1 → (kn27 x1 x2 x3 (x4 + 1) 1 (ss_i (ss_a (ss_a (ss_a u 10 (upd (sg_a u 10) (sg_a u 13 x4.toNatClampNeg).toNatClampNeg (-1))) 10 (upd (upd (sg_a u 10) (sg_a u 13 x4.toNatClampNeg).toNatClampNeg (-1)) (sg_a u 13 x4.toNatClampNeg).toNatClampNeg v19)) 15 (upd (sg_a u 15) x4.toNatClampNeg v20)) 8 v21)))))))))))))))))))
def wp_M_search_27 (post : Int32 → zz_St → Prop) (kn27 : Int32 → Int32 → Int32 → Int32 → Int32 → zz_St → Prop) (x1 : Int32) (x2 : Int32) (x3 : Int32) (x4 : Int32) (x5 : Int32) (u : zz_St) : Prop :=
  (x4 < 0 → (((sg_i u 7) = 0 → (post 1 u)) ∧ (¬ (sg_i u 7) = 0 → (post 0 u)))) ∧ (¬ x4 < 0 → ((x5 = 0 → (wp_M_search_119 post kn27 x1 x2 x3 x4 u)) ∧ (¬ x5 = 0 → (wp_M_open x4 u (fun r6 s5 => ((r6 = 0 → (∀ v8 : Int32, v8 = (sg_i s5 9) + 1 → (wp_M_sumNow (ss_i s5 9 v8) (fun r10 s9 => ((r10 ≤ x3 → (wp_M_search_104 post kn27 x1 x2 x3 x4 s9)) ∧ (¬ r10 ≤ x3 → (wp_M_sumNow s9 (fun r13 s12 => (∃ n : Nat, wp_M_search_77_f post kn27 n x1 x2 r13 x4 0 (ss_i s12 7 1)))))))))) ∧ (¬ r6 = 0 → (wp_M_search_119 post kn27 x1 x2 x3 x4 s5))))))))
def wp_M_search_27_f (post : Int32 → zz_St → Prop) : Nat → Int32 → Int32 → Int32 → Int32 → Int32 → zz_St → Prop
  | 0 => fun _ _ _ _ _ _ => False
  | n + 1 => wp_M_search_27 post (wp_M_search_27_f post n)
def wp_M_search (a0 : Int32) (a1 : Int32) (u : zz_St) (post : Int32 → zz_St → Prop) : Prop :=
  wp_M_clearNow u (fun s1 => (∃ n : Nat, wp_M_search_27_f post n a0 a1 (-1) 0 1 (ss_i (ss_i (ss_i s1 7 0) 8 0) 9 0)))
def wp_M_run_16 (post : Int32 → zz_St → Prop) (u : zz_St) : Prop :=
  post (-1) u
def wp_M_run (a0 : Int32) (u : zz_St) (post : Int32 → zz_St → Prop) : Prop :=
  (a0 < 0 → (wp_M_run_16 post  (ss_i u 0 0))) ∧ (¬ a0 < 0 → ((a0 ≤ 20000 → (wp_M_search a0 0 (ss_i u 0 0) (fun r4 s3 => (post r4 s3)))) ∧ (¬ a0 ≤ 20000 → (wp_M_run_16 post  (ss_i u 0 0)))))
def wp_M_best_16 (post : Int32 → zz_St → Prop) (u : zz_St) : Prop :=
  post (-1) u
def wp_M_best (a0 : Int32) (u : zz_St) (post : Int32 → zz_St → Prop) : Prop :=
  (a0 < 0 → (wp_M_best_16 post  (ss_i u 0 0))) ∧ (¬ a0 < 0 → ((a0 ≤ 20000 → (wp_M_search a0 1 (ss_i u 0 0) (fun r4 s3 => (post r4 s3)))) ∧ (¬ a0 ≤ 20000 → (wp_M_best_16 post  (ss_i u 0 0)))))
def wp_M_steps (u : zz_St) (post : Int32 → zz_St → Prop) : Prop :=
  post (sg_i u 8) (ss_i u 0 0)
def wp_M_many (u : zz_St) (post : Int32 → zz_St → Prop) : Prop :=
  post (sg_i u 9) (ss_i u 0 0)
def wp_M_score_18 (post : Int32 → zz_St → Prop) (kn18 : Int32 → Int32 → zz_St → Prop) (x1 : Int32) (x2 : Int32) (u : zz_St) : Prop :=
  ((sg_i u 5) ≤ x2 → (post x1 u)) ∧ (¬ (sg_i u 5) ≤ x2 → (vp_in x2 36 ∧ (vp_in (sg_a u 11 x2.toNatClampNeg) 80 ∧ (∀ v3 : Int32, v3 = x1 + (sg_a u 5 (sg_a u 11 x2.toNatClampNeg).toNatClampNeg) → (kn18 v3 (x2 + 1) u)))))
def wp_M_score_18_f (post : Int32 → zz_St → Prop) : Nat → Int32 → Int32 → zz_St → Prop
  | 0 => fun _ _ _ => False
  | n + 1 => wp_M_score_18 post (wp_M_score_18_f post n)
def wp_M_score (u : zz_St) (post : Int32 → zz_St → Prop) : Prop :=
  ((sg_i u 7) = 0 → (post (-1) (ss_i u 0 0))) ∧ (¬ (sg_i u 7) = 0 → (∃ n : Nat, wp_M_score_18_f post  n 0 0 (ss_i u 0 0)))
def wp_M_letter_36 (post : Int32 → zz_St → Prop) (kn18 : Int32 → Int32 → Int32 → zz_St → Prop) (kn36 : Int32 → Int32 → Int32 → Int32 → zz_St → Prop) (x1 : Int32) (x2 : Int32) (x3 : Int32) (x4 : Int32) (u : zz_St) : Prop :=
  vp_in x3 36 ∧ (((sg_a u 7 x3.toNatClampNeg) ≤ x4 → (kn18 x1 x2 (x3 + 1) u)) ∧ (¬ (sg_a u 7 x3.toNatClampNeg) ≤ x4 → (wp_M_cellOf x3 x4 u (fun r8 s7 => ((r8 = (((sg_i s7 1) * x2) + x1) → (vp_in x3 36 ∧ (vp_in ((6 * (sg_a s7 11 x3.toNatClampNeg)) + x4) 480 ∧ (post (sg_a s7 4 ((6 * (sg_a s7 11 x3.toNatClampNeg)) + x4).toNatClampNeg) s7)))) ∧ (¬ r8 = (((sg_i s7 1) * x2) + x1) → (kn36 x1 x2 x3 (x4 + 1) s7)))))))
def wp_M_letter_36_f (post : Int32 → zz_St → Prop) (kn18 : Int32 → Int32 → Int32 → zz_St → Prop) : Nat → Int32 → Int32 → Int32 → Int32 → zz_St → Prop
  | 0 => fun _ _ _ _ _ => False
  | n + 1 => wp_M_letter_36 post kn18 (wp_M_letter_36_f post kn18 n)
def wp_M_letter_18 (post : Int32 → zz_St → Prop) (kn18 : Int32 → Int32 → Int32 → zz_St → Prop) (x1 : Int32) (x2 : Int32) (x3 : Int32) (u : zz_St) : Prop :=
  ((sg_i u 5) ≤ x3 → (post 0 u)) ∧ (¬ (sg_i u 5) ≤ x3 → (((sg_i u 7) = 0 → (post 0 u)) ∧ (¬ (sg_i u 7) = 0 → (∃ n : Nat, wp_M_letter_36_f post kn18 n x1 x2 x3 0 u))))
def wp_M_letter_18_f (post : Int32 → zz_St → Prop) : Nat → Int32 → Int32 → Int32 → zz_St → Prop
  | 0 => fun _ _ _ _ => False
  | n + 1 => wp_M_letter_18 post (wp_M_letter_18_f post n)
def wp_M_letter (a0 : Int32) (a1 : Int32) (u : zz_St) (post : Int32 → zz_St → Prop) : Prop :=
  wp_M_isCell a0 a1 (ss_i u 0 0) (fun r2 s1 => ((r2 = 0 → (post (-1) s1)) ∧ (¬ r2 = 0 → (∃ n : Nat, wp_M_letter_18_f post n a0 a1 0 s1))))
def wp_M_check_105 (post : Int32 → zz_St → Prop) (kn16 : Int32 → zz_St → Prop) (kn55 : Int32 → Int32 → zz_St → Prop) (x1 : Int32) (x2 : Int32) (u : zz_St) : Prop :=
  kn55 x1 (x2 + 1) u
def wp_M_check_55 (post : Int32 → zz_St → Prop) (kn16 : Int32 → zz_St → Prop) (kn55 : Int32 → Int32 → zz_St → Prop) (x1 : Int32) (x2 : Int32) (u : zz_St) : Prop :=
  vp_in x1 36 ∧ (((sg_a u 7 x1.toNatClampNeg) ≤ x2 → (kn16 (x1 + 1) u)) ∧ (¬ (sg_a u 7 x1.toNatClampNeg) ≤ x2 → (wp_M_cellOf x1 x2 u (fun r7 s6 => (vp_in r7 36 ∧ (∀ v8 : Int32, v8 = sg_a s6 1 r7.toNatClampNeg → ((v8 = 0 → (wp_M_check_105 post kn16 kn55 x1 x2 s6)) ∧ (¬ v8 = 0 → (vp_in x1 36 ∧ (vp_in ((6 * (sg_a s6 11 x1.toNatClampNeg)) + x2) 480 ∧ ((v8 = (sg_a s6 4 ((6 * (sg_a s6 11 x1.toNatClampNeg)) + x2).toNatClampNeg) → (wp_M_check_105 post kn16 kn55 x1 x2 s6)) ∧ (¬ v8 = (sg_a s6 4 ((6 * (sg_a s6 11 x1.toNatClampNeg)) + x2).toNatClampNeg) → (post (1 + x1) s6)))))))))))))
def wp_M_check_55_f (post : Int32 → zz_St → Prop) (kn16 : Int32 → zz_St → Prop) : Nat → Int32 → Int32 → zz_St → Prop
  | 0 => fun _ _ _ => False
  | n + 1 => wp_M_check_55 post kn16 (wp_M_check_55_f post kn16 n)
def wp_M_check_53 (post : Int32 → zz_St → Prop) (kn16 : Int32 → zz_St → Prop) (x1 : Int32) (u : zz_St) : Prop :=
  ∃ n : Nat, wp_M_check_55_f post kn16 n x1 0 u
def wp_M_check_16 (post : Int32 → zz_St → Prop) (kn16 : Int32 → zz_St → Prop) (x1 : Int32) (u : zz_St) : Prop :=
  ((sg_i u 5) ≤ x1 → (post 0 u)) ∧ (¬ (sg_i u 5) ≤ x1 → (vp_in x1 36 ∧ (((sg_a u 9 x1.toNatClampNeg) = (-1) → (wp_M_check_53 post kn16 x1 u)) ∧ (¬ (sg_a u 9 x1.toNatClampNeg) = (-1) → (vp_in x1 36 ∧ (vp_in x1 36 ∧ (((sg_a u 9 x1.toNatClampNeg) = (sg_a u 11 x1.toNatClampNeg) → (wp_M_check_53 post kn16 x1 u)) ∧ (¬ (sg_a u 9 x1.toNatClampNeg) = (sg_a u 11 x1.toNatClampNeg) → (post (1 + x1) u)))))))))
def wp_M_check_16_f (post : Int32 → zz_St → Prop) : Nat → Int32 → zz_St → Prop
  | 0 => fun _ _ => False
  | n + 1 => wp_M_check_16 post (wp_M_check_16_f post n)
def wp_M_check (u : zz_St) (post : Int32 → zz_St → Prop) : Prop :=
  ((sg_i u 7) = 0 → (post (-1) (ss_i u 0 0))) ∧ (¬ (sg_i u 7) = 0 → (∃ n : Nat, wp_M_check_16_f post  n 0 (ss_i u 0 0)))
def wp_M_alike_106 (post : Int32 → zz_St → Prop) (kn34 : Int32 → Int32 → zz_St → Prop) (kn44 : Int32 → Int32 → Int32 → zz_St → Prop) (x1 : Int32) (x2 : Int32) (x3 : Int32) (x4 : Int32) (y0 : Int32) (u : zz_St) : Prop :=
  vp_in (((sg_i u 1) * x2) + x3) 36 ∧ (vp_in (((sg_i u 1) * y0) + x4) 36 ∧ (((sg_a u 0 (((sg_i u 1) * x2) + x3).toNatClampNeg) = (sg_a u 0 (((sg_i u 1) * y0) + x4).toNatClampNeg) → (kn44 x1 x2 (x3 + 1) u)) ∧ (¬ (sg_a u 0 (((sg_i u 1) * x2) + x3).toNatClampNeg) = (sg_a u 0 (((sg_i u 1) * y0) + x4).toNatClampNeg) → (post 0 u))))
def wp_M_alike_78 (post : Int32 → zz_St → Prop) (kn34 : Int32 → Int32 → zz_St → Prop) (kn44 : Int32 → Int32 → Int32 → zz_St → Prop) (x1 : Int32) (x2 : Int32) (x3 : Int32) (y0 : Int32) (u : zz_St) : Prop :=
  (x1 = 3 → (wp_M_alike_106 post kn34 kn44 x1 x2 x3 y0 x3 u)) ∧ (¬ x1 = 3 → ((x1 = 1 → (wp_M_alike_106 post kn34 kn44 x1 x2 x3 y0 x2 u)) ∧ (¬ x1 = 1 → (wp_M_alike_106 post kn34 kn44 x1 x2 x3 y0 (((sg_i u 2) - 1) - x2) u))))
def wp_M_alike_44 (post : Int32 → zz_St → Prop) (kn34 : Int32 → Int32 → zz_St → Prop) (kn44 : Int32 → Int32 → Int32 → zz_St → Prop) (x1 : Int32) (x2 : Int32) (x3 : Int32) (u : zz_St) : Prop :=
  ((sg_i u 1) ≤ x3 → (kn34 x1 (x2 + 1) u)) ∧ (¬ (sg_i u 1) ≤ x3 → ((x1 = 3 → (wp_M_alike_78 post kn34 kn44 x1 x2 x3 x2 u)) ∧ (¬ x1 = 3 → ((x1 = 2 → (wp_M_alike_78 post kn34 kn44 x1 x2 x3 x3 u)) ∧ (¬ x1 = 2 → (wp_M_alike_78 post kn34 kn44 x1 x2 x3 (((sg_i u 1) - 1) - x3) u))))))
def wp_M_alike_44_f (post : Int32 → zz_St → Prop) (kn34 : Int32 → Int32 → zz_St → Prop) : Nat → Int32 → Int32 → Int32 → zz_St → Prop
  | 0 => fun _ _ _ _ => False
  | n + 1 => wp_M_alike_44 post kn34 (wp_M_alike_44_f post kn34 n)
def wp_M_alike_34 (post : Int32 → zz_St → Prop) (kn34 : Int32 → Int32 → zz_St → Prop) (x1 : Int32) (x2 : Int32) (u : zz_St) : Prop :=
  ((sg_i u 2) ≤ x2 → (post 1 u)) ∧ (¬ (sg_i u 2) ≤ x2 → (∃ n : Nat, wp_M_alike_44_f post kn34 n x1 x2 0 u))
def wp_M_alike_34_f (post : Int32 → zz_St → Prop) : Nat → Int32 → Int32 → zz_St → Prop
  | 0 => fun _ _ _ => False
  | n + 1 => wp_M_alike_34 post (wp_M_alike_34_f post n)
def wp_M_alike_32 (post : Int32 → zz_St → Prop) (x1 : Int32) (u : zz_St) : Prop :=
  ∃ n : Nat, wp_M_alike_34_f post  n x1 0 u
def wp_M_alike (a0 : Int32) (u : zz_St) (post : Int32 → zz_St → Prop) : Prop :=
  (a0 < 0 → (post 0 (ss_i u 0 0))) ∧ (¬ a0 < 0 → ((3 < a0 → (post 0 (ss_i u 0 0))) ∧ (¬ 3 < a0 → ((a0 = 3 → (((sg_i u 1) = (sg_i u 2) → (wp_M_alike_32 post  a0 (ss_i u 0 0))) ∧ (¬ (sg_i u 1) = (sg_i u 2) → (post 0 (ss_i u 0 0))))) ∧ (¬ a0 = 3 → (wp_M_alike_32 post  a0 (ss_i u 0 0)))))))
def wp_M_isSeen (a0 : Int32) (a1 : Int32) (u : zz_St) (post : Int32 → zz_St → Prop) : Prop :=
  wp_M_isCell a0 a1 u (fun r2 s1 => ((r2 = 0 → (post 0 s1)) ∧ (¬ r2 = 0 → (vp_in (((sg_i s1 1) * a1) + a0) 36 ∧ (((sg_a s1 17 (((sg_i s1 1) * a1) + a0).toNatClampNeg) = 0 → (post 0 s1)) ∧ (¬ (sg_a s1 17 (((sg_i s1 1) * a1) + a0).toNatClampNeg) = 0 → (post 1 s1)))))))
def wp_M_parts_223 (post : Int32 → zz_St → Prop) (kn30 : Int32 → Int32 → zz_St → Prop) (kn76 : Int32 → Int32 → Int32 → zz_St → Prop) (kn85 : Int32 → Int32 → Int32 → Int32 → zz_St → Prop) (x1 : Int32) (x2 : Int32) (x3 : Int32) (x4 : Int32) (u : zz_St) : Prop :=
  kn85 x1 x2 x3 (x4 + 1) u
def wp_M_parts_222 (post : Int32 → zz_St → Prop) (kn30 : Int32 → Int32 → zz_St → Prop) (kn76 : Int32 → Int32 → Int32 → zz_St → Prop) (kn85 : Int32 → Int32 → Int32 → Int32 → zz_St → Prop) (x1 : Int32) (x2 : Int32) (x4 : Int32) (y0 : Int32) (u : zz_St) : Prop :=
  wp_M_parts_223 post kn30 kn76 kn85 x1 x2 y0 x4 u
def wp_M_parts_217 (post : Int32 → zz_St → Prop) (kn30 : Int32 → Int32 → zz_St → Prop) (kn76 : Int32 → Int32 → Int32 → zz_St → Prop) (kn85 : Int32 → Int32 → Int32 → Int32 → zz_St → Prop) (x1 : Int32) (x2 : Int32) (x4 : Int32) (u : zz_St) : Prop :=
  wp_M_parts_222 post kn30 kn76 kn85 x1 x2 x4 1 u
def wp_M_parts_197 (post : Int32 → zz_St → Prop) (kn30 : Int32 → Int32 → zz_St → Prop) (kn76 : Int32 → Int32 → Int32 → zz_St → Prop) (kn85 : Int32 → Int32 → Int32 → Int32 → zz_St → Prop) (x1 : Int32) (x2 : Int32) (x3 : Int32) (x4 : Int32) (y0 : Int32) (u : zz_St) : Prop :=
  (vp_in x4 36 ∧ ((y0 = 0 ∨ y0 = 1) ∧ (x3 = 0 → ((y0 = 0 → (wp_M_parts_222 post kn30 kn76 kn85 x1 x2 x4 0 (ss_a u 17 (upd (sg_a u 17) x4.toNatClampNeg y0)))) ∧ (¬ y0 = 0 → (wp_M_parts_217 post kn30 kn76 kn85 x1 x2 x4 (ss_a u 17 (upd (sg_a u 17) x4.toNatClampNeg y0)))))) ∧ (¬ x3 = 0 → (wp_M_parts_217 post kn30 kn76 kn85 x1 x2 x4 (ss_a u 17 (upd (sg_a u 17) x4.toNatClampNeg y0))))))
def wp_M_parts_192 (post : Int32 → zz_St → Prop) (kn30 : Int32 → Int32 → zz_St → Prop) (kn76 : Int32 → Int32 → Int32 → zz_St → Prop) (kn85 : Int32 → Int32 → Int32 → Int32 → zz_St → Prop) (x1 : Int32) (x2 : Int32) (x3 : Int32) (x4 : Int32) (u : zz_St) : Prop :=
  wp_M_parts_197 post kn30 kn76 kn85 x1 x2 x3 x4 1 u
def wp_M_parts_85 (post : Int32 → zz_St → Prop) (kn30 : Int32 → Int32 → zz_St → Prop) (kn76 : Int32 → Int32 → Int32 → zz_St → Prop) (kn85 : Int32 → Int32 → Int32 → Int32 → zz_St → Prop) (x1 : Int32) (x2 : Int32) (x3 : Int32) (x4 : Int32) (u : zz_St) : Prop :=
  (((sg_i u 1) * (sg_i u 2)) ≤ x4 → (kn76 x1 x2 x3 u)) ∧ (¬ ((sg_i u 1) * (sg_i u 2)) ≤ x4 → (vp_in x4 36 ∧ (((sg_a u 0 x4.toNatClampNeg) = 0 → (vp_in x4 36 ∧ (((sg_a u 17 x4.toNatClampNeg) = 0 → ((¬ (sg_i u 1) = 0) ∧ (∀ v9 : Int32, v9 = x4 - x4 / (sg_i u 1) * (sg_i u 1) → ((¬ (sg_i u 1) = 0) ∧ (∀ v10 : Int32, v10 = x4 / (sg_i u 1) → (wp_M_isSeen (v9 - 1) v10 u (fun r12 s11 => ((r12 = 0 → (wp_M_isSeen (v9 + 1) v10 s11 (fun r15 s14 => ((r15 = 0 → (wp_M_isSeen v9 (v10 - 1) s14 (fun r18 s17 => ((r18 = 0 → (wp_M_isSeen v9 (v10 + 1) s17 (fun r21 s20 => ((r21 = 0 → (wp_M_parts_197 post kn30 kn76 kn85 x1 x2 x3 x4 0 s20)) ∧ (¬ r21 = 0 → (wp_M_parts_192 post kn30 kn76 kn85 x1 x2 x3 x4 s20)))))) ∧ (¬ r18 = 0 → (wp_M_parts_192 post kn30 kn76 kn85 x1 x2 x3 x4 s17)))))) ∧ (¬ r15 = 0 → (wp_M_parts_192 post kn30 kn76 kn85 x1 x2 x3 x4 s14)))))) ∧ (¬ r12 = 0 → (wp_M_parts_192 post kn30 kn76 kn85 x1 x2 x3 x4 s11)))))))))) ∧ (¬ (sg_a u 17 x4.toNatClampNeg) = 0 → (wp_M_parts_223 post kn30 kn76 kn85 x1 x2 x3 x4 u))))) ∧ (¬ (sg_a u 0 x4.toNatClampNeg) = 0 → (wp_M_parts_223 post kn30 kn76 kn85 x1 x2 x3 x4 u)))))
def wp_M_parts_85_f (post : Int32 → zz_St → Prop) (kn30 : Int32 → Int32 → zz_St → Prop) (kn76 : Int32 → Int32 → Int32 → zz_St → Prop) : Nat → Int32 → Int32 → Int32 → Int32 → zz_St → Prop
  | 0 => fun _ _ _ _ _ => False
  | n + 1 => wp_M_parts_85 post kn30 kn76 (wp_M_parts_85_f post kn30 kn76 n)
def wp_M_parts_232 (post : Int32 → zz_St → Prop) (kn30 : Int32 → Int32 → zz_St → Prop) (x1 : Int32) (x2 : Int32) (u : zz_St) : Prop :=
  kn30 x1 (x2 + 1) u
def wp_M_parts_76 (post : Int32 → zz_St → Prop) (kn30 : Int32 → Int32 → zz_St → Prop) (kn76 : Int32 → Int32 → Int32 → zz_St → Prop) (x1 : Int32) (x2 : Int32) (x3 : Int32) (u : zz_St) : Prop :=
  (x3 = 0 → (wp_M_parts_232 post kn30 x1 x2 u)) ∧ (¬ x3 = 0 → (∃ n : Nat, wp_M_parts_85_f post kn30 kn76 n x1 x2 0 0 u))
def wp_M_parts_76_f (post : Int32 → zz_St → Prop) (kn30 : Int32 → Int32 → zz_St → Prop) : Nat → Int32 → Int32 → Int32 → zz_St → Prop
  | 0 => fun _ _ _ _ => False
  | n + 1 => wp_M_parts_76 post kn30 (wp_M_parts_76_f post kn30 n)
def wp_M_parts_30 (post : Int32 → zz_St → Prop) (kn30 : Int32 → Int32 → zz_St → Prop) (x1 : Int32) (x2 : Int32) (u : zz_St) : Prop :=
  (((sg_i u 1) * (sg_i u 2)) ≤ x2 → (post x1 u)) ∧ (¬ ((sg_i u 1) * (sg_i u 2)) ≤ x2 → (vp_in x2 36 ∧ (((sg_a u 0 x2.toNatClampNeg) = 0 → (vp_in x2 36 ∧ (((sg_a u 17 x2.toNatClampNeg) = 0 → ((vp_in x2 36 ∧ ((1 = 0 ∨ 1 = 1) ∧ ∃ n : Nat, wp_M_parts_76_f post kn30 n (x1 + 1) x2 1 (ss_a u 17 (upd (sg_a u 17) x2.toNatClampNeg 1)))))) ∧ (¬ (sg_a u 17 x2.toNatClampNeg) = 0 → (wp_M_parts_232 post kn30 x1 x2 u))))) ∧ (¬ (sg_a u 0 x2.toNatClampNeg) = 0 → (wp_M_parts_232 post kn30 x1 x2 u)))))
def wp_M_parts_30_f (post : Int32 → zz_St → Prop) : Nat → Int32 → Int32 → zz_St → Prop
  | 0 => fun _ _ _ => False
  | n + 1 => wp_M_parts_30 post (wp_M_parts_30_f post n)
def wp_M_parts_7 (post : Int32 → zz_St → Prop) (kn7 : Int32 → zz_St → Prop) (x1 : Int32) (u : zz_St) : Prop :=
  (36 ≤ x1 → (∃ n : Nat, wp_M_parts_30_f post  n 0 0 u)) ∧ (¬ 36 ≤ x1 → ((vp_in x1 36 ∧ ((0 = 0 ∨ 0 = 1) ∧ kn7 (x1 + 1) (ss_a u 17 (upd (sg_a u 17) x1.toNatClampNeg 0))))))
def wp_M_parts_7_f (post : Int32 → zz_St → Prop) : Nat → Int32 → zz_St → Prop
  | 0 => fun _ _ => False
  | n + 1 => wp_M_parts_7 post (wp_M_parts_7_f post n)
def wp_M_parts (u : zz_St) (post : Int32 → zz_St → Prop) : Prop :=
  ∃ n : Nat, wp_M_parts_7_f post  n 0 (ss_i u 0 0)
end
section
theorem gw_C_i0 (cI cZ cL : ClassId) (a : Nat → Nat) (u : zz_St) (x : Int32) : (gw_C cI cZ cL a u).set 1 (a 1, .inr (1, [.int (sg_i u 0), .int (sg_i u 1), .int (sg_i u 2), .ref (a 5), .ref (a 6), .int (sg_i u 3), .ref (a 7), .ref (a 8), .ref (a 9), .ref (a 10), .ref (a 11), .ref (a 12), .ref (a 13)].set 0 (.int x))) = gw_C cI cZ cL a (ss_i u 0 x) := rfl
theorem gw_C_i1 (cI cZ cL : ClassId) (a : Nat → Nat) (u : zz_St) (x : Int32) : (gw_C cI cZ cL a u).set 1 (a 1, .inr (1, [.int (sg_i u 0), .int (sg_i u 1), .int (sg_i u 2), .ref (a 5), .ref (a 6), .int (sg_i u 3), .ref (a 7), .ref (a 8), .ref (a 9), .ref (a 10), .ref (a 11), .ref (a 12), .ref (a 13)].set 1 (.int x))) = gw_C cI cZ cL a (ss_i u 1 x) := rfl
theorem gw_C_i2 (cI cZ cL : ClassId) (a : Nat → Nat) (u : zz_St) (x : Int32) : (gw_C cI cZ cL a u).set 1 (a 1, .inr (1, [.int (sg_i u 0), .int (sg_i u 1), .int (sg_i u 2), .ref (a 5), .ref (a 6), .int (sg_i u 3), .ref (a 7), .ref (a 8), .ref (a 9), .ref (a 10), .ref (a 11), .ref (a 12), .ref (a 13)].set 2 (.int x))) = gw_C cI cZ cL a (ss_i u 2 x) := rfl
theorem gw_C_i3 (cI cZ cL : ClassId) (a : Nat → Nat) (u : zz_St) (x : Int32) : (gw_C cI cZ cL a u).set 1 (a 1, .inr (1, [.int (sg_i u 0), .int (sg_i u 1), .int (sg_i u 2), .ref (a 5), .ref (a 6), .int (sg_i u 3), .ref (a 7), .ref (a 8), .ref (a 9), .ref (a 10), .ref (a 11), .ref (a 12), .ref (a 13)].set 5 (.int x))) = gw_C cI cZ cL a (ss_i u 3 x) := rfl
theorem gw_C_i4 (cI cZ cL : ClassId) (a : Nat → Nat) (u : zz_St) (x : Int32) : (gw_C cI cZ cL a u).set 2 (a 2, .inr (2, [.int (sg_i u 4), .ref (a 14), .ref (a 15), .ref (a 16), .ref (a 17), .ref (a 22), .ref (a 23), .ref (a 24), .ref (a 25), .ref (a 18), .ref (a 19), .int (sg_i u 5)].set 0 (.int x))) = gw_C cI cZ cL a (ss_i u 4 x) := rfl
theorem gw_C_i5 (cI cZ cL : ClassId) (a : Nat → Nat) (u : zz_St) (x : Int32) : (gw_C cI cZ cL a u).set 2 (a 2, .inr (2, [.int (sg_i u 4), .ref (a 14), .ref (a 15), .ref (a 16), .ref (a 17), .ref (a 22), .ref (a 23), .ref (a 24), .ref (a 25), .ref (a 18), .ref (a 19), .int (sg_i u 5)].set 11 (.int x))) = gw_C cI cZ cL a (ss_i u 5 x) := rfl
theorem gw_C_i6 (cI cZ cL : ClassId) (a : Nat → Nat) (u : zz_St) (x : Int32) : (gw_C cI cZ cL a u).set 3 (a 3, .inr (3, [.ref (a 1), .ref (a 2), .ref (a 20), .int (sg_i u 6)].set 3 (.int x))) = gw_C cI cZ cL a (ss_i u 6 x) := rfl
theorem gw_C_l0 (cI cZ cL : ClassId) (a : Nat → Nat) (u : zz_St) (x : Int64) : (gw_C cI cZ cL a u).set 4 (a 4, .inr (4, [.ref (a 1), .ref (a 2), .ref (a 3), .ref (a 26), .ref (a 27), .ref (a 21), .long (sg_l u 0), .long (sg_l u 1), .int (sg_i u 7), .int (sg_i u 8), .int (sg_i u 9), .int (sg_i u 10), .int (sg_i u 11), .int (sg_i u 12)].set 6 (.long x))) = gw_C cI cZ cL a (ss_l u 0 x) := rfl
theorem gw_C_l1 (cI cZ cL : ClassId) (a : Nat → Nat) (u : zz_St) (x : Int64) : (gw_C cI cZ cL a u).set 4 (a 4, .inr (4, [.ref (a 1), .ref (a 2), .ref (a 3), .ref (a 26), .ref (a 27), .ref (a 21), .long (sg_l u 0), .long (sg_l u 1), .int (sg_i u 7), .int (sg_i u 8), .int (sg_i u 9), .int (sg_i u 10), .int (sg_i u 11), .int (sg_i u 12)].set 7 (.long x))) = gw_C cI cZ cL a (ss_l u 1 x) := rfl
theorem gw_C_i7 (cI cZ cL : ClassId) (a : Nat → Nat) (u : zz_St) (x : Int32) : (gw_C cI cZ cL a u).set 4 (a 4, .inr (4, [.ref (a 1), .ref (a 2), .ref (a 3), .ref (a 26), .ref (a 27), .ref (a 21), .long (sg_l u 0), .long (sg_l u 1), .int (sg_i u 7), .int (sg_i u 8), .int (sg_i u 9), .int (sg_i u 10), .int (sg_i u 11), .int (sg_i u 12)].set 8 (.int x))) = gw_C cI cZ cL a (ss_i u 7 x) := rfl
theorem gw_C_i8 (cI cZ cL : ClassId) (a : Nat → Nat) (u : zz_St) (x : Int32) : (gw_C cI cZ cL a u).set 4 (a 4, .inr (4, [.ref (a 1), .ref (a 2), .ref (a 3), .ref (a 26), .ref (a 27), .ref (a 21), .long (sg_l u 0), .long (sg_l u 1), .int (sg_i u 7), .int (sg_i u 8), .int (sg_i u 9), .int (sg_i u 10), .int (sg_i u 11), .int (sg_i u 12)].set 9 (.int x))) = gw_C cI cZ cL a (ss_i u 8 x) := rfl
theorem gw_C_i9 (cI cZ cL : ClassId) (a : Nat → Nat) (u : zz_St) (x : Int32) : (gw_C cI cZ cL a u).set 4 (a 4, .inr (4, [.ref (a 1), .ref (a 2), .ref (a 3), .ref (a 26), .ref (a 27), .ref (a 21), .long (sg_l u 0), .long (sg_l u 1), .int (sg_i u 7), .int (sg_i u 8), .int (sg_i u 9), .int (sg_i u 10), .int (sg_i u 11), .int (sg_i u 12)].set 10 (.int x))) = gw_C cI cZ cL a (ss_i u 9 x) := rfl
theorem gw_C_i10 (cI cZ cL : ClassId) (a : Nat → Nat) (u : zz_St) (x : Int32) : (gw_C cI cZ cL a u).set 4 (a 4, .inr (4, [.ref (a 1), .ref (a 2), .ref (a 3), .ref (a 26), .ref (a 27), .ref (a 21), .long (sg_l u 0), .long (sg_l u 1), .int (sg_i u 7), .int (sg_i u 8), .int (sg_i u 9), .int (sg_i u 10), .int (sg_i u 11), .int (sg_i u 12)].set 11 (.int x))) = gw_C cI cZ cL a (ss_i u 10 x) := rfl
theorem gw_C_i11 (cI cZ cL : ClassId) (a : Nat → Nat) (u : zz_St) (x : Int32) : (gw_C cI cZ cL a u).set 4 (a 4, .inr (4, [.ref (a 1), .ref (a 2), .ref (a 3), .ref (a 26), .ref (a 27), .ref (a 21), .long (sg_l u 0), .long (sg_l u 1), .int (sg_i u 7), .int (sg_i u 8), .int (sg_i u 9), .int (sg_i u 10), .int (sg_i u 11), .int (sg_i u 12)].set 12 (.int x))) = gw_C cI cZ cL a (ss_i u 11 x) := rfl
theorem gw_C_i12 (cI cZ cL : ClassId) (a : Nat → Nat) (u : zz_St) (x : Int32) : (gw_C cI cZ cL a u).set 4 (a 4, .inr (4, [.ref (a 1), .ref (a 2), .ref (a 3), .ref (a 26), .ref (a 27), .ref (a 21), .long (sg_l u 0), .long (sg_l u 1), .int (sg_i u 7), .int (sg_i u 8), .int (sg_i u 9), .int (sg_i u 10), .int (sg_i u 11), .int (sg_i u 12)].set 13 (.int x))) = gw_C cI cZ cL a (ss_i u 12 x) := rfl
theorem gw_C_a0 (cI cZ cL : ClassId) (a : Nat → Nat) (u : zz_St) (f : Nat → Int32) : (gw_C cI cZ cL a u).set 5 (a 5, .inl (cZ, 36, .inl f)) = gw_C cI cZ cL a (ss_a u 0 f) := rfl
theorem gw_C_a1 (cI cZ cL : ClassId) (a : Nat → Nat) (u : zz_St) (f : Nat → Int32) : (gw_C cI cZ cL a u).set 6 (a 6, .inl (cI, 36, .inl f)) = gw_C cI cZ cL a (ss_a u 1 f) := rfl
theorem gw_C_a2 (cI cZ cL : ClassId) (a : Nat → Nat) (u : zz_St) (f : Nat → Int32) : (gw_C cI cZ cL a u).set 7 (a 7, .inl (cI, 24, .inl f)) = gw_C cI cZ cL a (ss_a u 2 f) := rfl
theorem gw_C_a3 (cI cZ cL : ClassId) (a : Nat → Nat) (u : zz_St) (f : Nat → Int32) : (gw_C cI cZ cL a u).set 8 (a 8, .inl (cI, 24, .inl f)) = gw_C cI cZ cL a (ss_a u 3 f) := rfl
theorem gw_C_a4 (cI cZ cL : ClassId) (a : Nat → Nat) (u : zz_St) (f : Nat → Int32) : (gw_C cI cZ cL a u).set 9 (a 9, .inl (cI, 24, .inl f)) = gw_C cI cZ cL a (ss_a u 4 f) := rfl
theorem gw_C_a5 (cI cZ cL : ClassId) (a : Nat → Nat) (u : zz_St) (f : Nat → Int32) : (gw_C cI cZ cL a u).set 10 (a 10, .inl (cI, 24, .inl f)) = gw_C cI cZ cL a (ss_a u 5 f) := rfl
theorem gw_C_a6 (cI cZ cL : ClassId) (a : Nat → Nat) (u : zz_St) (f : Nat → Int32) : (gw_C cI cZ cL a u).set 11 (a 11, .inl (cI, 72, .inl f)) = gw_C cI cZ cL a (ss_a u 6 f) := rfl
theorem gw_C_a7 (cI cZ cL : ClassId) (a : Nat → Nat) (u : zz_St) (f : Nat → Int32) : (gw_C cI cZ cL a u).set 12 (a 12, .inl (cI, 72, .inl f)) = gw_C cI cZ cL a (ss_a u 7 f) := rfl
theorem gw_C_a8 (cI cZ cL : ClassId) (a : Nat → Nat) (u : zz_St) (f : Nat → Int32) : (gw_C cI cZ cL a u).set 13 (a 13, .inl (cI, 36, .inl f)) = gw_C cI cZ cL a (ss_a u 8 f) := rfl
theorem gw_C_a9 (cI cZ cL : ClassId) (a : Nat → Nat) (u : zz_St) (f : Nat → Int32) : (gw_C cI cZ cL a u).set 14 (a 14, .inl (cI, 80, .inl f)) = gw_C cI cZ cL a (ss_a u 9 f) := rfl
theorem gw_C_a10 (cI cZ cL : ClassId) (a : Nat → Nat) (u : zz_St) (f : Nat → Int32) : (gw_C cI cZ cL a u).set 15 (a 15, .inl (cI, 80, .inl f)) = gw_C cI cZ cL a (ss_a u 10 f) := rfl
theorem gw_C_a11 (cI cZ cL : ClassId) (a : Nat → Nat) (u : zz_St) (f : Nat → Int32) : (gw_C cI cZ cL a u).set 16 (a 16, .inl (cI, 80, .inl f)) = gw_C cI cZ cL a (ss_a u 11 f) := rfl
theorem gw_C_a12 (cI cZ cL : ClassId) (a : Nat → Nat) (u : zz_St) (f : Nat → Int32) : (gw_C cI cZ cL a u).set 17 (a 17, .inl (cI, 80, .inl f)) = gw_C cI cZ cL a (ss_a u 12 f) := rfl
theorem gw_C_a13 (cI cZ cL : ClassId) (a : Nat → Nat) (u : zz_St) (f : Nat → Int32) : (gw_C cI cZ cL a u).set 18 (a 18, .inl (cI, 480, .inl f)) = gw_C cI cZ cL a (ss_a u 13 f) := rfl
theorem gw_C_a14 (cI cZ cL : ClassId) (a : Nat → Nat) (u : zz_St) (f : Nat → Int32) : (gw_C cI cZ cL a u).set 19 (a 19, .inl (cI, 6, .inl f)) = gw_C cI cZ cL a (ss_a u 14 f) := rfl
theorem gw_C_a15 (cI cZ cL : ClassId) (a : Nat → Nat) (u : zz_St) (f : Nat → Int32) : (gw_C cI cZ cL a u).set 20 (a 20, .inl (cI, 24, .inl f)) = gw_C cI cZ cL a (ss_a u 15 f) := rfl
theorem gw_C_a16 (cI cZ cL : ClassId) (a : Nat → Nat) (u : zz_St) (f : Nat → Int32) : (gw_C cI cZ cL a u).set 21 (a 21, .inl (cI, 24, .inl f)) = gw_C cI cZ cL a (ss_a u 16 f) := rfl
theorem gw_C_b0 (cI cZ cL : ClassId) (a : Nat → Nat) (u : zz_St) (f : Nat → Int64) : (gw_C cI cZ cL a u).set 22 (a 22, .inl (cL, 7, .inr (.inl f))) = gw_C cI cZ cL a (ss_b u 0 f) := rfl
theorem gw_C_b1 (cI cZ cL : ClassId) (a : Nat → Nat) (u : zz_St) (f : Nat → Int64) : (gw_C cI cZ cL a u).set 23 (a 23, .inl (cL, 7, .inr (.inl f))) = gw_C cI cZ cL a (ss_b u 1 f) := rfl
theorem gw_C_b2 (cI cZ cL : ClassId) (a : Nat → Nat) (u : zz_St) (f : Nat → Int64) : (gw_C cI cZ cL a u).set 24 (a 24, .inl (cL, 156, .inr (.inl f))) = gw_C cI cZ cL a (ss_b u 2 f) := rfl
theorem gw_C_b3 (cI cZ cL : ClassId) (a : Nat → Nat) (u : zz_St) (f : Nat → Int64) : (gw_C cI cZ cL a u).set 25 (a 25, .inl (cL, 156, .inr (.inl f))) = gw_C cI cZ cL a (ss_b u 3 f) := rfl
theorem gw_C_b4 (cI cZ cL : ClassId) (a : Nat → Nat) (u : zz_St) (f : Nat → Int64) : (gw_C cI cZ cL a u).set 26 (a 26, .inl (cL, 600, .inr (.inl f))) = gw_C cI cZ cL a (ss_b u 4 f) := rfl
theorem gw_C_b5 (cI cZ cL : ClassId) (a : Nat → Nat) (u : zz_St) (f : Nat → Int64) : (gw_C cI cZ cL a u).set 27 (a 27, .inl (cL, 600, .inr (.inl f))) = gw_C cI cZ cL a (ss_b u 5 f) := rfl
theorem gw_G_i0 (cI cZ cL : ClassId) (a : Nat → Nat) (u : zz_St) (x : Int32) : (gw_G cI cZ cL a u).set 0 (a 0, .inr (1, [.int (sg_i u 0), .int (sg_i u 1), .int (sg_i u 2), .ref (a 1), .ref (a 2), .int (sg_i u 3), .ref (a 3), .ref (a 4), .ref (a 5), .ref (a 6), .ref (a 7), .ref (a 8), .ref (a 9)].set 0 (.int x))) = gw_G cI cZ cL a (ss_i u 0 x) := rfl
theorem gw_G_i1 (cI cZ cL : ClassId) (a : Nat → Nat) (u : zz_St) (x : Int32) : (gw_G cI cZ cL a u).set 0 (a 0, .inr (1, [.int (sg_i u 0), .int (sg_i u 1), .int (sg_i u 2), .ref (a 1), .ref (a 2), .int (sg_i u 3), .ref (a 3), .ref (a 4), .ref (a 5), .ref (a 6), .ref (a 7), .ref (a 8), .ref (a 9)].set 1 (.int x))) = gw_G cI cZ cL a (ss_i u 1 x) := rfl
theorem gw_G_i2 (cI cZ cL : ClassId) (a : Nat → Nat) (u : zz_St) (x : Int32) : (gw_G cI cZ cL a u).set 0 (a 0, .inr (1, [.int (sg_i u 0), .int (sg_i u 1), .int (sg_i u 2), .ref (a 1), .ref (a 2), .int (sg_i u 3), .ref (a 3), .ref (a 4), .ref (a 5), .ref (a 6), .ref (a 7), .ref (a 8), .ref (a 9)].set 2 (.int x))) = gw_G cI cZ cL a (ss_i u 2 x) := rfl
theorem gw_G_i3 (cI cZ cL : ClassId) (a : Nat → Nat) (u : zz_St) (x : Int32) : (gw_G cI cZ cL a u).set 0 (a 0, .inr (1, [.int (sg_i u 0), .int (sg_i u 1), .int (sg_i u 2), .ref (a 1), .ref (a 2), .int (sg_i u 3), .ref (a 3), .ref (a 4), .ref (a 5), .ref (a 6), .ref (a 7), .ref (a 8), .ref (a 9)].set 5 (.int x))) = gw_G cI cZ cL a (ss_i u 3 x) := rfl
theorem gw_G_a0 (cI cZ cL : ClassId) (a : Nat → Nat) (u : zz_St) (f : Nat → Int32) : (gw_G cI cZ cL a u).set 1 (a 1, .inl (cZ, 36, .inl f)) = gw_G cI cZ cL a (ss_a u 0 f) := rfl
theorem gw_G_a1 (cI cZ cL : ClassId) (a : Nat → Nat) (u : zz_St) (f : Nat → Int32) : (gw_G cI cZ cL a u).set 2 (a 2, .inl (cI, 36, .inl f)) = gw_G cI cZ cL a (ss_a u 1 f) := rfl
theorem gw_G_a2 (cI cZ cL : ClassId) (a : Nat → Nat) (u : zz_St) (f : Nat → Int32) : (gw_G cI cZ cL a u).set 3 (a 3, .inl (cI, 24, .inl f)) = gw_G cI cZ cL a (ss_a u 2 f) := rfl
theorem gw_G_a3 (cI cZ cL : ClassId) (a : Nat → Nat) (u : zz_St) (f : Nat → Int32) : (gw_G cI cZ cL a u).set 4 (a 4, .inl (cI, 24, .inl f)) = gw_G cI cZ cL a (ss_a u 3 f) := rfl
theorem gw_G_a4 (cI cZ cL : ClassId) (a : Nat → Nat) (u : zz_St) (f : Nat → Int32) : (gw_G cI cZ cL a u).set 5 (a 5, .inl (cI, 24, .inl f)) = gw_G cI cZ cL a (ss_a u 4 f) := rfl
theorem gw_G_a5 (cI cZ cL : ClassId) (a : Nat → Nat) (u : zz_St) (f : Nat → Int32) : (gw_G cI cZ cL a u).set 6 (a 6, .inl (cI, 24, .inl f)) = gw_G cI cZ cL a (ss_a u 5 f) := rfl
theorem gw_G_a6 (cI cZ cL : ClassId) (a : Nat → Nat) (u : zz_St) (f : Nat → Int32) : (gw_G cI cZ cL a u).set 7 (a 7, .inl (cI, 72, .inl f)) = gw_G cI cZ cL a (ss_a u 6 f) := rfl
theorem gw_G_a7 (cI cZ cL : ClassId) (a : Nat → Nat) (u : zz_St) (f : Nat → Int32) : (gw_G cI cZ cL a u).set 8 (a 8, .inl (cI, 72, .inl f)) = gw_G cI cZ cL a (ss_a u 7 f) := rfl
theorem gw_G_a8 (cI cZ cL : ClassId) (a : Nat → Nat) (u : zz_St) (f : Nat → Int32) : (gw_G cI cZ cL a u).set 9 (a 9, .inl (cI, 36, .inl f)) = gw_G cI cZ cL a (ss_a u 8 f) := rfl
theorem gw_M_i0 (cI cZ cL : ClassId) (a : Nat → Nat) (u : zz_St) (x : Int32) : (gw_M cI cZ cL a u).set 0 (a 0, .inr (5, [.int (sg_i u 0), .int (sg_i u 1), .int (sg_i u 2), .ref (a 1), .ref (a 2), .int (sg_i u 3), .ref (a 3), .int (sg_i u 4), .ref (a 4), .ref (a 5), .ref (a 6), .int (sg_i u 5), .ref (a 7), .ref (a 8), .ref (a 9), .ref (a 10), .int (sg_i u 6), .ref (a 11), .ref (a 12), .int (sg_i u 7), .int (sg_i u 8), .int (sg_i u 9), .ref (a 13), .ref (a 14), .ref (a 15), .ref (a 16), .ref (a 17), .ref (a 18)].set 0 (.int x))) = gw_M cI cZ cL a (ss_i u 0 x) := rfl
theorem gw_M_i1 (cI cZ cL : ClassId) (a : Nat → Nat) (u : zz_St) (x : Int32) : (gw_M cI cZ cL a u).set 0 (a 0, .inr (5, [.int (sg_i u 0), .int (sg_i u 1), .int (sg_i u 2), .ref (a 1), .ref (a 2), .int (sg_i u 3), .ref (a 3), .int (sg_i u 4), .ref (a 4), .ref (a 5), .ref (a 6), .int (sg_i u 5), .ref (a 7), .ref (a 8), .ref (a 9), .ref (a 10), .int (sg_i u 6), .ref (a 11), .ref (a 12), .int (sg_i u 7), .int (sg_i u 8), .int (sg_i u 9), .ref (a 13), .ref (a 14), .ref (a 15), .ref (a 16), .ref (a 17), .ref (a 18)].set 1 (.int x))) = gw_M cI cZ cL a (ss_i u 1 x) := rfl
theorem gw_M_i2 (cI cZ cL : ClassId) (a : Nat → Nat) (u : zz_St) (x : Int32) : (gw_M cI cZ cL a u).set 0 (a 0, .inr (5, [.int (sg_i u 0), .int (sg_i u 1), .int (sg_i u 2), .ref (a 1), .ref (a 2), .int (sg_i u 3), .ref (a 3), .int (sg_i u 4), .ref (a 4), .ref (a 5), .ref (a 6), .int (sg_i u 5), .ref (a 7), .ref (a 8), .ref (a 9), .ref (a 10), .int (sg_i u 6), .ref (a 11), .ref (a 12), .int (sg_i u 7), .int (sg_i u 8), .int (sg_i u 9), .ref (a 13), .ref (a 14), .ref (a 15), .ref (a 16), .ref (a 17), .ref (a 18)].set 2 (.int x))) = gw_M cI cZ cL a (ss_i u 2 x) := rfl
theorem gw_M_i3 (cI cZ cL : ClassId) (a : Nat → Nat) (u : zz_St) (x : Int32) : (gw_M cI cZ cL a u).set 0 (a 0, .inr (5, [.int (sg_i u 0), .int (sg_i u 1), .int (sg_i u 2), .ref (a 1), .ref (a 2), .int (sg_i u 3), .ref (a 3), .int (sg_i u 4), .ref (a 4), .ref (a 5), .ref (a 6), .int (sg_i u 5), .ref (a 7), .ref (a 8), .ref (a 9), .ref (a 10), .int (sg_i u 6), .ref (a 11), .ref (a 12), .int (sg_i u 7), .int (sg_i u 8), .int (sg_i u 9), .ref (a 13), .ref (a 14), .ref (a 15), .ref (a 16), .ref (a 17), .ref (a 18)].set 5 (.int x))) = gw_M cI cZ cL a (ss_i u 3 x) := rfl
theorem gw_M_i4 (cI cZ cL : ClassId) (a : Nat → Nat) (u : zz_St) (x : Int32) : (gw_M cI cZ cL a u).set 0 (a 0, .inr (5, [.int (sg_i u 0), .int (sg_i u 1), .int (sg_i u 2), .ref (a 1), .ref (a 2), .int (sg_i u 3), .ref (a 3), .int (sg_i u 4), .ref (a 4), .ref (a 5), .ref (a 6), .int (sg_i u 5), .ref (a 7), .ref (a 8), .ref (a 9), .ref (a 10), .int (sg_i u 6), .ref (a 11), .ref (a 12), .int (sg_i u 7), .int (sg_i u 8), .int (sg_i u 9), .ref (a 13), .ref (a 14), .ref (a 15), .ref (a 16), .ref (a 17), .ref (a 18)].set 7 (.int x))) = gw_M cI cZ cL a (ss_i u 4 x) := rfl
theorem gw_M_i5 (cI cZ cL : ClassId) (a : Nat → Nat) (u : zz_St) (x : Int32) : (gw_M cI cZ cL a u).set 0 (a 0, .inr (5, [.int (sg_i u 0), .int (sg_i u 1), .int (sg_i u 2), .ref (a 1), .ref (a 2), .int (sg_i u 3), .ref (a 3), .int (sg_i u 4), .ref (a 4), .ref (a 5), .ref (a 6), .int (sg_i u 5), .ref (a 7), .ref (a 8), .ref (a 9), .ref (a 10), .int (sg_i u 6), .ref (a 11), .ref (a 12), .int (sg_i u 7), .int (sg_i u 8), .int (sg_i u 9), .ref (a 13), .ref (a 14), .ref (a 15), .ref (a 16), .ref (a 17), .ref (a 18)].set 11 (.int x))) = gw_M cI cZ cL a (ss_i u 5 x) := rfl
theorem gw_M_i6 (cI cZ cL : ClassId) (a : Nat → Nat) (u : zz_St) (x : Int32) : (gw_M cI cZ cL a u).set 0 (a 0, .inr (5, [.int (sg_i u 0), .int (sg_i u 1), .int (sg_i u 2), .ref (a 1), .ref (a 2), .int (sg_i u 3), .ref (a 3), .int (sg_i u 4), .ref (a 4), .ref (a 5), .ref (a 6), .int (sg_i u 5), .ref (a 7), .ref (a 8), .ref (a 9), .ref (a 10), .int (sg_i u 6), .ref (a 11), .ref (a 12), .int (sg_i u 7), .int (sg_i u 8), .int (sg_i u 9), .ref (a 13), .ref (a 14), .ref (a 15), .ref (a 16), .ref (a 17), .ref (a 18)].set 16 (.int x))) = gw_M cI cZ cL a (ss_i u 6 x) := rfl
theorem gw_M_i7 (cI cZ cL : ClassId) (a : Nat → Nat) (u : zz_St) (x : Int32) : (gw_M cI cZ cL a u).set 0 (a 0, .inr (5, [.int (sg_i u 0), .int (sg_i u 1), .int (sg_i u 2), .ref (a 1), .ref (a 2), .int (sg_i u 3), .ref (a 3), .int (sg_i u 4), .ref (a 4), .ref (a 5), .ref (a 6), .int (sg_i u 5), .ref (a 7), .ref (a 8), .ref (a 9), .ref (a 10), .int (sg_i u 6), .ref (a 11), .ref (a 12), .int (sg_i u 7), .int (sg_i u 8), .int (sg_i u 9), .ref (a 13), .ref (a 14), .ref (a 15), .ref (a 16), .ref (a 17), .ref (a 18)].set 19 (.int x))) = gw_M cI cZ cL a (ss_i u 7 x) := rfl
theorem gw_M_i8 (cI cZ cL : ClassId) (a : Nat → Nat) (u : zz_St) (x : Int32) : (gw_M cI cZ cL a u).set 0 (a 0, .inr (5, [.int (sg_i u 0), .int (sg_i u 1), .int (sg_i u 2), .ref (a 1), .ref (a 2), .int (sg_i u 3), .ref (a 3), .int (sg_i u 4), .ref (a 4), .ref (a 5), .ref (a 6), .int (sg_i u 5), .ref (a 7), .ref (a 8), .ref (a 9), .ref (a 10), .int (sg_i u 6), .ref (a 11), .ref (a 12), .int (sg_i u 7), .int (sg_i u 8), .int (sg_i u 9), .ref (a 13), .ref (a 14), .ref (a 15), .ref (a 16), .ref (a 17), .ref (a 18)].set 20 (.int x))) = gw_M cI cZ cL a (ss_i u 8 x) := rfl
theorem gw_M_i9 (cI cZ cL : ClassId) (a : Nat → Nat) (u : zz_St) (x : Int32) : (gw_M cI cZ cL a u).set 0 (a 0, .inr (5, [.int (sg_i u 0), .int (sg_i u 1), .int (sg_i u 2), .ref (a 1), .ref (a 2), .int (sg_i u 3), .ref (a 3), .int (sg_i u 4), .ref (a 4), .ref (a 5), .ref (a 6), .int (sg_i u 5), .ref (a 7), .ref (a 8), .ref (a 9), .ref (a 10), .int (sg_i u 6), .ref (a 11), .ref (a 12), .int (sg_i u 7), .int (sg_i u 8), .int (sg_i u 9), .ref (a 13), .ref (a 14), .ref (a 15), .ref (a 16), .ref (a 17), .ref (a 18)].set 21 (.int x))) = gw_M cI cZ cL a (ss_i u 9 x) := rfl
theorem gw_M_a0 (cI cZ cL : ClassId) (a : Nat → Nat) (u : zz_St) (f : Nat → Int32) : (gw_M cI cZ cL a u).set 1 (a 1, .inl (cZ, 36, .inl f)) = gw_M cI cZ cL a (ss_a u 0 f) := rfl
theorem gw_M_a1 (cI cZ cL : ClassId) (a : Nat → Nat) (u : zz_St) (f : Nat → Int32) : (gw_M cI cZ cL a u).set 2 (a 2, .inl (cI, 36, .inl f)) = gw_M cI cZ cL a (ss_a u 1 f) := rfl
theorem gw_M_a2 (cI cZ cL : ClassId) (a : Nat → Nat) (u : zz_St) (f : Nat → Int32) : (gw_M cI cZ cL a u).set 3 (a 3, .inl (cI, 6, .inl f)) = gw_M cI cZ cL a (ss_a u 2 f) := rfl
theorem gw_M_a3 (cI cZ cL : ClassId) (a : Nat → Nat) (u : zz_St) (f : Nat → Int32) : (gw_M cI cZ cL a u).set 4 (a 4, .inl (cI, 80, .inl f)) = gw_M cI cZ cL a (ss_a u 3 f) := rfl
theorem gw_M_a4 (cI cZ cL : ClassId) (a : Nat → Nat) (u : zz_St) (f : Nat → Int32) : (gw_M cI cZ cL a u).set 5 (a 5, .inl (cI, 480, .inl f)) = gw_M cI cZ cL a (ss_a u 4 f) := rfl
theorem gw_M_a5 (cI cZ cL : ClassId) (a : Nat → Nat) (u : zz_St) (f : Nat → Int32) : (gw_M cI cZ cL a u).set 6 (a 6, .inl (cI, 80, .inl f)) = gw_M cI cZ cL a (ss_a u 5 f) := rfl
theorem gw_M_a6 (cI cZ cL : ClassId) (a : Nat → Nat) (u : zz_St) (f : Nat → Int32) : (gw_M cI cZ cL a u).set 7 (a 7, .inl (cI, 36, .inl f)) = gw_M cI cZ cL a (ss_a u 6 f) := rfl
theorem gw_M_a7 (cI cZ cL : ClassId) (a : Nat → Nat) (u : zz_St) (f : Nat → Int32) : (gw_M cI cZ cL a u).set 8 (a 8, .inl (cI, 36, .inl f)) = gw_M cI cZ cL a (ss_a u 7 f) := rfl
theorem gw_M_a8 (cI cZ cL : ClassId) (a : Nat → Nat) (u : zz_St) (f : Nat → Int32) : (gw_M cI cZ cL a u).set 9 (a 9, .inl (cI, 36, .inl f)) = gw_M cI cZ cL a (ss_a u 8 f) := rfl
theorem gw_M_a9 (cI cZ cL : ClassId) (a : Nat → Nat) (u : zz_St) (f : Nat → Int32) : (gw_M cI cZ cL a u).set 10 (a 10, .inl (cI, 36, .inl f)) = gw_M cI cZ cL a (ss_a u 9 f) := rfl
theorem gw_M_a10 (cI cZ cL : ClassId) (a : Nat → Nat) (u : zz_St) (f : Nat → Int32) : (gw_M cI cZ cL a u).set 11 (a 11, .inl (cI, 36, .inl f)) = gw_M cI cZ cL a (ss_a u 10 f) := rfl
theorem gw_M_a11 (cI cZ cL : ClassId) (a : Nat → Nat) (u : zz_St) (f : Nat → Int32) : (gw_M cI cZ cL a u).set 12 (a 12, .inl (cI, 36, .inl f)) = gw_M cI cZ cL a (ss_a u 11 f) := rfl
theorem gw_M_a12 (cI cZ cL : ClassId) (a : Nat → Nat) (u : zz_St) (f : Nat → Int32) : (gw_M cI cZ cL a u).set 13 (a 13, .inl (cI, 36, .inl f)) = gw_M cI cZ cL a (ss_a u 12 f) := rfl
theorem gw_M_a13 (cI cZ cL : ClassId) (a : Nat → Nat) (u : zz_St) (f : Nat → Int32) : (gw_M cI cZ cL a u).set 14 (a 14, .inl (cI, 37, .inl f)) = gw_M cI cZ cL a (ss_a u 13 f) := rfl
theorem gw_M_a14 (cI cZ cL : ClassId) (a : Nat → Nat) (u : zz_St) (f : Nat → Int32) : (gw_M cI cZ cL a u).set 15 (a 15, .inl (cI, 37, .inl f)) = gw_M cI cZ cL a (ss_a u 14 f) := rfl
theorem gw_M_a15 (cI cZ cL : ClassId) (a : Nat → Nat) (u : zz_St) (f : Nat → Int32) : (gw_M cI cZ cL a u).set 16 (a 16, .inl (cI, 37, .inl f)) = gw_M cI cZ cL a (ss_a u 15 f) := rfl
theorem gw_M_a16 (cI cZ cL : ClassId) (a : Nat → Nat) (u : zz_St) (f : Nat → Int32) : (gw_M cI cZ cL a u).set 17 (a 17, .inl (cI, 2960, .inl f)) = gw_M cI cZ cL a (ss_a u 16 f) := rfl
theorem gw_M_a17 (cI cZ cL : ClassId) (a : Nat → Nat) (u : zz_St) (f : Nat → Int32) : (gw_M cI cZ cL a u).set 18 (a 18, .inl (cZ, 36, .inl f)) = gw_M cI cZ cL a (ss_a u 17 f) := rfl
end
section
set_option maxRecDepth 100000 in
set_option maxHeartbeats 4000000 in
theorem ct_JL_bitCount (l : Launch) (D : va_G) (cI cZ cL : ClassId) (a : Nat → Nat) {a0 : Int64} {u : zz_St} {post : Int32 → zz_St → Prop} (h : wp_JL_bitCount  a0 u post) : zz_MI l y_JL_bitCount (.code y_JL_bitCount b_JL_bitCount 2 (some .int) :: zz_tbl) (rm_JL_bitCount) D zz_cl (zz_ty cI cZ cL) (gw_C cI cZ cL a) [.long a0] u post := by
  unfold wp_JL_bitCount at h
  refine zz_ofI (by decide) (Nat.le_of_ble_eq_true rfl) ?_
  intro p e s m below meth c A cx hw ls hl
  obtain ⟨hx, hb, hr, hml, hown, hts, hlk, hK, hA⟩ := id cx
  refine lv_lload_n hx hb d_JL_bitCount_0 rfl (lv_at hl 0 rfl) ?_
  refine lv_lload_n hx hb d_JL_bitCount_1 rfl (lv_at hl 0 rfl) ?_
  refine lv_iconst (v := 1) hx hb d_JL_bitCount_2 (by decide) ?_
  refine lv_lushr hx hb d_JL_bitCount_3 rfl ?_
  refine lv_ldc2 (v := 6148914691236517205) hx hb hown (hts _ kw_0) d_JL_bitCount_4 ?_
  refine lv_land hx hb d_JL_bitCount_7 ?_
  refine lv_lsub hx hb d_JL_bitCount_8 ?_
  refine lv_topl (fun v1 ev1 => ?_)
  replace h := h v1 ev1
  refine lv_lstore_n (lv' := [(0, .long v1)]) hx hb d_JL_bitCount_9 rfl hl (by decide) rfl (fun ls hl => ?_)
  refine lv_lload_n hx hb d_JL_bitCount_10 rfl (lv_at hl 0 rfl) ?_
  refine lv_ldc2 (v := 3689348814741910323) hx hb hown (hts _ kw_1) d_JL_bitCount_11 ?_
  refine lv_land hx hb d_JL_bitCount_14 ?_
  refine lv_lload_n hx hb d_JL_bitCount_15 rfl (lv_at hl 0 rfl) ?_
  refine lv_iconst (v := 2) hx hb d_JL_bitCount_16 (by decide) ?_
  refine lv_lushr hx hb d_JL_bitCount_17 rfl ?_
  refine lv_ldc2 (v := 3689348814741910323) hx hb hown (hts _ kw_1) d_JL_bitCount_18 ?_
  refine lv_land hx hb d_JL_bitCount_21 ?_
  refine lv_ladd hx hb d_JL_bitCount_22 ?_
  refine lv_topl (fun v2 ev2 => ?_)
  replace h := h v2 ev2
  refine lv_lstore_n (lv' := [(0, .long v2)]) hx hb d_JL_bitCount_23 rfl hl (by decide) rfl (fun ls hl => ?_)
  refine lv_lload_n hx hb d_JL_bitCount_24 rfl (lv_at hl 0 rfl) ?_
  refine lv_lload_n hx hb d_JL_bitCount_25 rfl (lv_at hl 0 rfl) ?_
  refine lv_iconst (v := 4) hx hb d_JL_bitCount_26 (by decide) ?_
  refine lv_lushr hx hb d_JL_bitCount_27 rfl ?_
  refine lv_ladd hx hb d_JL_bitCount_28 ?_
  refine lv_ldc2 (v := 1085102592571150095) hx hb hown (hts _ kw_2) d_JL_bitCount_29 ?_
  refine lv_land hx hb d_JL_bitCount_32 ?_
  refine lv_topl (fun v3 ev3 => ?_)
  replace h := h v3 ev3
  refine lv_lstore_n (lv' := [(0, .long v3)]) hx hb d_JL_bitCount_33 rfl hl (by decide) rfl (fun ls hl => ?_)
  refine lv_lload_n hx hb d_JL_bitCount_34 rfl (lv_at hl 0 rfl) ?_
  refine lv_lload_n hx hb d_JL_bitCount_35 rfl (lv_at hl 0 rfl) ?_
  refine lv_bipush (v := 8) hx hb d_JL_bitCount_36 (by decide) ?_
  refine lv_lushr hx hb d_JL_bitCount_38 rfl ?_
  refine lv_ladd hx hb d_JL_bitCount_39 ?_
  refine lv_topl (fun v4 ev4 => ?_)
  replace h := h v4 ev4
  refine lv_lstore_n (lv' := [(0, .long v4)]) hx hb d_JL_bitCount_40 rfl hl (by decide) rfl (fun ls hl => ?_)
  refine lv_lload_n hx hb d_JL_bitCount_41 rfl (lv_at hl 0 rfl) ?_
  refine lv_lload_n hx hb d_JL_bitCount_42 rfl (lv_at hl 0 rfl) ?_
  refine lv_bipush (v := 16) hx hb d_JL_bitCount_43 (by decide) ?_
  refine lv_lushr hx hb d_JL_bitCount_45 rfl ?_
  refine lv_ladd hx hb d_JL_bitCount_46 ?_
  refine lv_topl (fun v5 ev5 => ?_)
  replace h := h v5 ev5
  refine lv_lstore_n (lv' := [(0, .long v5)]) hx hb d_JL_bitCount_47 rfl hl (by decide) rfl (fun ls hl => ?_)
  refine lv_lload_n hx hb d_JL_bitCount_48 rfl (lv_at hl 0 rfl) ?_
  refine lv_lload_n hx hb d_JL_bitCount_49 rfl (lv_at hl 0 rfl) ?_
  refine lv_bipush (v := 32) hx hb d_JL_bitCount_50 (by decide) ?_
  refine lv_lushr hx hb d_JL_bitCount_52 rfl ?_
  refine lv_ladd hx hb d_JL_bitCount_53 ?_
  refine lv_topl (fun v6 ev6 => ?_)
  replace h := h v6 ev6
  refine lv_lstore_n (lv' := [(0, .long v6)]) hx hb d_JL_bitCount_54 rfl hl (by decide) rfl (fun ls hl => ?_)
  refine lv_lload_n hx hb d_JL_bitCount_55 rfl (lv_at hl 0 rfl) ?_
  refine lv_l2i hx hb d_JL_bitCount_56 rfl ?_
  refine lv_bipush (v := 127) hx hb d_JL_bitCount_57 (by decide) ?_
  refine lv_iand hx hb d_JL_bitCount_59 ?_
  exact zz_reti cx hw d_JL_bitCount_60 h
set_option maxRecDepth 100000 in
set_option maxHeartbeats 4000000 in
theorem wk_JA_fillI_GthemeOf_5 {p : Program} {l : Launch} {e : Env} {s : State} {m : MethodId} {args : Array Value} {below : List Frame} {meth : Method} {c : Code} {A : Nat → Prop} {D : va_G} {cI cZ cL : ClassId} {a : Nat → Nat} (cx : zz_Cx p s m args meth c "java/util/Arrays" b_JA_fillI 4 none D zz_cl (zz_ty cI cZ cL) A) (post : zz_St → Prop) {kn5 : Int32 → Int32 → Int32 → zz_St → Prop} (hkn5 : ∀ (x1 : Int32) (x2 : Int32) (x3 : Int32) (u : zz_St) (H : Heap) (locs : List Loc) (ls : Array Slot), zz_Wd D zz_cl A s.heap H locs (gw_C cI cZ cL a u) → lv_has ls 4 [(0, .ref (a 10)), (1, .int x1), (2, .int x2), (3, .int x3)] → kn5 x1 x2 x3 u → W p l e (rm_JA_fillI_GthemeOf) s m args below meth c H locs 0 0 (MQ below (va_Qv post (zz_B D zz_cl (zz_ty cI cZ cL) (gw_C cI cZ cL a) A) A) args s 0 0 A) (F0 m 5 ls [])) : ∀ (x1 : Int32) (x2 : Int32) (x3 : Int32) (u : zz_St) (H : Heap) (locs : List Loc) (ls : Array Slot), zz_Wd D zz_cl A s.heap H locs (gw_C cI cZ cL a u) → lv_has ls 4 [(0, .ref (a 10)), (1, .int x1), (2, .int x2), (3, .int x3)] → wp_JA_fillI_GthemeOf_5 post kn5 x1 x2 x3 u → W p l e (rm_JA_fillI_GthemeOf) s m args below meth c H locs 0 0 (MQ below (va_Qv post (zz_B D zz_cl (zz_ty cI cZ cL) (gw_C cI cZ cL a) A) A) args s 0 0 A) (F0 m 5 ls []) := by
  intro x1 x2 x3 u H locs ls hw hl h
  unfold wp_JA_fillI_GthemeOf_5 at h
  obtain ⟨hx, hb, hr, hml, hown, hts, hlk, hK, hA⟩ := id cx
  refine lv_iload_n hx hb d_JA_fillI_5 rfl (lv_at hl 2 rfl) ?_
  refine lv_iload_n hx hb d_JA_fillI_6 rfl (lv_at hl 3 rfl) ?_
  refine lv_icmp_ge (tgt := 20) hx hb d_JA_fillI_7 (by decide) (fun c1 => ?_) (fun c1 => ?_)
  · replace h := h.1 c1
    exact zz_retv cx hw d_JA_fillI_20 h
  · replace h := h.2 c1
    refine lv_aload_n hx hb d_JA_fillI_10 rfl (lv_at hl 0 rfl) ?_
    refine lv_iload_n hx hb d_JA_fillI_11 rfl (lv_at hl 2 rfl) ?_
    refine lv_iload_n hx hb d_JA_fillI_12 rfl (lv_at hl 1 rfl) ?_
    obtain ⟨hi, h⟩ := h
    refine zz_iast (ws' := gw_C cI cZ cL a (ss_a u 5 (upd (sg_a u 5) x2.toNatClampNeg x1))) cx hw 10 0 rfl rfl hi rfl (gw_C_a5 _ _ _ _ _ _) d_JA_fillI_13 (fun H locs hw => ?_)
    refine lv_iinc (v := x2 + 1) (lv' := [(2, .int (x2 + 1)), (0, .ref (a 10)), (1, .int x1), (3, .int x3)]) hx hb d_JA_fillI_14 hl (k := 2) rfl rfl (by decide) rfl (fun ls hl => ?_)
    refine lv_goto (tgt := 5) hx hb d_JA_fillI_17 (by decide) ?_
    exact hkn5 x1 (x2 + 1) x3 (ss_a u 5 (upd (sg_a u 5) x2.toNatClampNeg x1)) _ _ _ hw (lv_sub hl [1, 2, 0, 3] rfl) h
set_option maxRecDepth 100000 in
set_option maxHeartbeats 4000000 in
theorem wk_JA_fillI_GthemeOf_5_f {p : Program} {l : Launch} {e : Env} {s : State} {m : MethodId} {args : Array Value} {below : List Frame} {meth : Method} {c : Code} {A : Nat → Prop} {D : va_G} {cI cZ cL : ClassId} {a : Nat → Nat} (cx : zz_Cx p s m args meth c "java/util/Arrays" b_JA_fillI 4 none D zz_cl (zz_ty cI cZ cL) A) (post : zz_St → Prop) : ∀ n : Nat, ∀ (x1 : Int32) (x2 : Int32) (x3 : Int32) (u : zz_St) (H : Heap) (locs : List Loc) (ls : Array Slot), zz_Wd D zz_cl A s.heap H locs (gw_C cI cZ cL a u) → lv_has ls 4 [(0, .ref (a 10)), (1, .int x1), (2, .int x2), (3, .int x3)] → wp_JA_fillI_GthemeOf_5_f post n x1 x2 x3 u → W p l e (rm_JA_fillI_GthemeOf) s m args below meth c H locs 0 0 (MQ below (va_Qv post (zz_B D zz_cl (zz_ty cI cZ cL) (gw_C cI cZ cL a) A) A) args s 0 0 A) (F0 m 5 ls []) := by
  intro n
  induction n with
  | zero => exact fun _ _ _ _ _ _ _ _ _ h => False.elim h
  | succ n ih => exact wk_JA_fillI_GthemeOf_5 cx post ih
set_option maxRecDepth 100000 in
set_option maxHeartbeats 4000000 in
theorem ct_JA_fillI_GthemeOf (l : Launch) (D : va_G) (cI cZ cL : ClassId) (a : Nat → Nat) {a1 : Int32} {u : zz_St} {post : zz_St → Prop} (h : wp_JA_fillI_GthemeOf  a1 u post) : zz_MV l y_JA_fillI (.code y_JA_fillI b_JA_fillI 4 none :: zz_tbl) (rm_JA_fillI_GthemeOf) D zz_cl (zz_ty cI cZ cL) (gw_C cI cZ cL a) [.ref (a 10), .int a1] u post := by
  unfold wp_JA_fillI_GthemeOf at h
  refine zz_ofV (by decide) (Nat.le_of_ble_eq_true rfl) ?_
  intro p e s m below meth c A cx hw ls hl
  obtain ⟨hx, hb, hr, hml, hown, hts, hlk, hK, hA⟩ := id cx
  refine lv_iconst (v := 0) hx hb d_JA_fillI_0 (by decide) ?_
  refine lv_istore_n (lv' := [(2, .int 0), (0, .ref (a 10)), (1, .int a1)]) hx hb d_JA_fillI_1 rfl hl (by decide) rfl (fun ls hl => ?_)
  refine lv_aload_n hx hb d_JA_fillI_2 rfl (lv_at hl 1 rfl) ?_
  refine va_alen (v := 24) hx hb hK hw.1 10 0 rfl rfl rfl d_JA_fillI_3 ?_
  refine lv_istore_n (lv' := [(3, .int 24), (2, .int 0), (0, .ref (a 10)), (1, .int a1)]) hx hb d_JA_fillI_4 rfl hl (by decide) rfl (fun ls hl => ?_)
  obtain ⟨n, h⟩ := h
  exact wk_JA_fillI_GthemeOf_5_f cx post  n a1 0 24 u _ _ _ hw (lv_sub hl [2, 3, 1, 0] rfl) h
set_option maxRecDepth 100000 in
set_option maxHeartbeats 4000000 in
theorem wk_JA_fillI_GslotThrough_5 {p : Program} {l : Launch} {e : Env} {s : State} {m : MethodId} {args : Array Value} {below : List Frame} {meth : Method} {c : Code} {A : Nat → Prop} {D : va_G} {cI cZ cL : ClassId} {a : Nat → Nat} (cx : zz_Cx p s m args meth c "java/util/Arrays" b_JA_fillI 4 none D zz_cl (zz_ty cI cZ cL) A) (post : zz_St → Prop) {kn5 : Int32 → Int32 → Int32 → zz_St → Prop} (hkn5 : ∀ (x1 : Int32) (x2 : Int32) (x3 : Int32) (u : zz_St) (H : Heap) (locs : List Loc) (ls : Array Slot), zz_Wd D zz_cl A s.heap H locs (gw_C cI cZ cL a u) → lv_has ls 4 [(0, .ref (a 11)), (1, .int x1), (2, .int x2), (3, .int x3)] → kn5 x1 x2 x3 u → W p l e (rm_JA_fillI_GslotThrough) s m args below meth c H locs 0 0 (MQ below (va_Qv post (zz_B D zz_cl (zz_ty cI cZ cL) (gw_C cI cZ cL a) A) A) args s 0 0 A) (F0 m 5 ls [])) : ∀ (x1 : Int32) (x2 : Int32) (x3 : Int32) (u : zz_St) (H : Heap) (locs : List Loc) (ls : Array Slot), zz_Wd D zz_cl A s.heap H locs (gw_C cI cZ cL a u) → lv_has ls 4 [(0, .ref (a 11)), (1, .int x1), (2, .int x2), (3, .int x3)] → wp_JA_fillI_GslotThrough_5 post kn5 x1 x2 x3 u → W p l e (rm_JA_fillI_GslotThrough) s m args below meth c H locs 0 0 (MQ below (va_Qv post (zz_B D zz_cl (zz_ty cI cZ cL) (gw_C cI cZ cL a) A) A) args s 0 0 A) (F0 m 5 ls []) := by
  intro x1 x2 x3 u H locs ls hw hl h
  unfold wp_JA_fillI_GslotThrough_5 at h
  obtain ⟨hx, hb, hr, hml, hown, hts, hlk, hK, hA⟩ := id cx
  refine lv_iload_n hx hb d_JA_fillI_5 rfl (lv_at hl 2 rfl) ?_
  refine lv_iload_n hx hb d_JA_fillI_6 rfl (lv_at hl 3 rfl) ?_
  refine lv_icmp_ge (tgt := 20) hx hb d_JA_fillI_7 (by decide) (fun c1 => ?_) (fun c1 => ?_)
  · replace h := h.1 c1
    exact zz_retv cx hw d_JA_fillI_20 h
  · replace h := h.2 c1
    refine lv_aload_n hx hb d_JA_fillI_10 rfl (lv_at hl 0 rfl) ?_
    refine lv_iload_n hx hb d_JA_fillI_11 rfl (lv_at hl 2 rfl) ?_
    refine lv_iload_n hx hb d_JA_fillI_12 rfl (lv_at hl 1 rfl) ?_
    obtain ⟨hi, h⟩ := h
    refine zz_iast (ws' := gw_C cI cZ cL a (ss_a u 6 (upd (sg_a u 6) x2.toNatClampNeg x1))) cx hw 11 0 rfl rfl hi rfl (gw_C_a6 _ _ _ _ _ _) d_JA_fillI_13 (fun H locs hw => ?_)
    refine lv_iinc (v := x2 + 1) (lv' := [(2, .int (x2 + 1)), (0, .ref (a 11)), (1, .int x1), (3, .int x3)]) hx hb d_JA_fillI_14 hl (k := 2) rfl rfl (by decide) rfl (fun ls hl => ?_)
    refine lv_goto (tgt := 5) hx hb d_JA_fillI_17 (by decide) ?_
    exact hkn5 x1 (x2 + 1) x3 (ss_a u 6 (upd (sg_a u 6) x2.toNatClampNeg x1)) _ _ _ hw (lv_sub hl [1, 2, 0, 3] rfl) h
set_option maxRecDepth 100000 in
set_option maxHeartbeats 4000000 in
theorem wk_JA_fillI_GslotThrough_5_f {p : Program} {l : Launch} {e : Env} {s : State} {m : MethodId} {args : Array Value} {below : List Frame} {meth : Method} {c : Code} {A : Nat → Prop} {D : va_G} {cI cZ cL : ClassId} {a : Nat → Nat} (cx : zz_Cx p s m args meth c "java/util/Arrays" b_JA_fillI 4 none D zz_cl (zz_ty cI cZ cL) A) (post : zz_St → Prop) : ∀ n : Nat, ∀ (x1 : Int32) (x2 : Int32) (x3 : Int32) (u : zz_St) (H : Heap) (locs : List Loc) (ls : Array Slot), zz_Wd D zz_cl A s.heap H locs (gw_C cI cZ cL a u) → lv_has ls 4 [(0, .ref (a 11)), (1, .int x1), (2, .int x2), (3, .int x3)] → wp_JA_fillI_GslotThrough_5_f post n x1 x2 x3 u → W p l e (rm_JA_fillI_GslotThrough) s m args below meth c H locs 0 0 (MQ below (va_Qv post (zz_B D zz_cl (zz_ty cI cZ cL) (gw_C cI cZ cL a) A) A) args s 0 0 A) (F0 m 5 ls []) := by
  intro n
  induction n with
  | zero => exact fun _ _ _ _ _ _ _ _ _ h => False.elim h
  | succ n ih => exact wk_JA_fillI_GslotThrough_5 cx post ih
set_option maxRecDepth 100000 in
set_option maxHeartbeats 4000000 in
theorem ct_JA_fillI_GslotThrough (l : Launch) (D : va_G) (cI cZ cL : ClassId) (a : Nat → Nat) {a1 : Int32} {u : zz_St} {post : zz_St → Prop} (h : wp_JA_fillI_GslotThrough  a1 u post) : zz_MV l y_JA_fillI (.code y_JA_fillI b_JA_fillI 4 none :: zz_tbl) (rm_JA_fillI_GslotThrough) D zz_cl (zz_ty cI cZ cL) (gw_C cI cZ cL a) [.ref (a 11), .int a1] u post := by
  unfold wp_JA_fillI_GslotThrough at h
  refine zz_ofV (by decide) (Nat.le_of_ble_eq_true rfl) ?_
  intro p e s m below meth c A cx hw ls hl
  obtain ⟨hx, hb, hr, hml, hown, hts, hlk, hK, hA⟩ := id cx
  refine lv_iconst (v := 0) hx hb d_JA_fillI_0 (by decide) ?_
  refine lv_istore_n (lv' := [(2, .int 0), (0, .ref (a 11)), (1, .int a1)]) hx hb d_JA_fillI_1 rfl hl (by decide) rfl (fun ls hl => ?_)
  refine lv_aload_n hx hb d_JA_fillI_2 rfl (lv_at hl 1 rfl) ?_
  refine va_alen (v := 72) hx hb hK hw.1 11 0 rfl rfl rfl d_JA_fillI_3 ?_
  refine lv_istore_n (lv' := [(3, .int 72), (2, .int 0), (0, .ref (a 11)), (1, .int a1)]) hx hb d_JA_fillI_4 rfl hl (by decide) rfl (fun ls hl => ?_)
  obtain ⟨n, h⟩ := h
  exact wk_JA_fillI_GslotThrough_5_f cx post  n a1 0 72 u _ _ _ hw (lv_sub hl [2, 3, 1, 0] rfl) h
set_option maxRecDepth 100000 in
set_option maxHeartbeats 4000000 in
theorem wk_JA_fillI_GgivenAt_5 {p : Program} {l : Launch} {e : Env} {s : State} {m : MethodId} {args : Array Value} {below : List Frame} {meth : Method} {c : Code} {A : Nat → Prop} {D : va_G} {cI cZ cL : ClassId} {a : Nat → Nat} (cx : zz_Cx p s m args meth c "java/util/Arrays" b_JA_fillI 4 none D zz_cl (zz_ty cI cZ cL) A) (post : zz_St → Prop) {kn5 : Int32 → Int32 → Int32 → zz_St → Prop} (hkn5 : ∀ (x1 : Int32) (x2 : Int32) (x3 : Int32) (u : zz_St) (H : Heap) (locs : List Loc) (ls : Array Slot), zz_Wd D zz_cl A s.heap H locs (gw_C cI cZ cL a u) → lv_has ls 4 [(0, .ref (a 6)), (1, .int x1), (2, .int x2), (3, .int x3)] → kn5 x1 x2 x3 u → W p l e (rm_JA_fillI_GgivenAt) s m args below meth c H locs 0 0 (MQ below (va_Qv post (zz_B D zz_cl (zz_ty cI cZ cL) (gw_C cI cZ cL a) A) A) args s 0 0 A) (F0 m 5 ls [])) : ∀ (x1 : Int32) (x2 : Int32) (x3 : Int32) (u : zz_St) (H : Heap) (locs : List Loc) (ls : Array Slot), zz_Wd D zz_cl A s.heap H locs (gw_C cI cZ cL a u) → lv_has ls 4 [(0, .ref (a 6)), (1, .int x1), (2, .int x2), (3, .int x3)] → wp_JA_fillI_GgivenAt_5 post kn5 x1 x2 x3 u → W p l e (rm_JA_fillI_GgivenAt) s m args below meth c H locs 0 0 (MQ below (va_Qv post (zz_B D zz_cl (zz_ty cI cZ cL) (gw_C cI cZ cL a) A) A) args s 0 0 A) (F0 m 5 ls []) := by
  intro x1 x2 x3 u H locs ls hw hl h
  unfold wp_JA_fillI_GgivenAt_5 at h
  obtain ⟨hx, hb, hr, hml, hown, hts, hlk, hK, hA⟩ := id cx
  refine lv_iload_n hx hb d_JA_fillI_5 rfl (lv_at hl 2 rfl) ?_
  refine lv_iload_n hx hb d_JA_fillI_6 rfl (lv_at hl 3 rfl) ?_
  refine lv_icmp_ge (tgt := 20) hx hb d_JA_fillI_7 (by decide) (fun c1 => ?_) (fun c1 => ?_)
  · replace h := h.1 c1
    exact zz_retv cx hw d_JA_fillI_20 h
  · replace h := h.2 c1
    refine lv_aload_n hx hb d_JA_fillI_10 rfl (lv_at hl 0 rfl) ?_
    refine lv_iload_n hx hb d_JA_fillI_11 rfl (lv_at hl 2 rfl) ?_
    refine lv_iload_n hx hb d_JA_fillI_12 rfl (lv_at hl 1 rfl) ?_
    obtain ⟨hi, h⟩ := h
    refine zz_iast (ws' := gw_C cI cZ cL a (ss_a u 1 (upd (sg_a u 1) x2.toNatClampNeg x1))) cx hw 6 0 rfl rfl hi rfl (gw_C_a1 _ _ _ _ _ _) d_JA_fillI_13 (fun H locs hw => ?_)
    refine lv_iinc (v := x2 + 1) (lv' := [(2, .int (x2 + 1)), (0, .ref (a 6)), (1, .int x1), (3, .int x3)]) hx hb d_JA_fillI_14 hl (k := 2) rfl rfl (by decide) rfl (fun ls hl => ?_)
    refine lv_goto (tgt := 5) hx hb d_JA_fillI_17 (by decide) ?_
    exact hkn5 x1 (x2 + 1) x3 (ss_a u 1 (upd (sg_a u 1) x2.toNatClampNeg x1)) _ _ _ hw (lv_sub hl [1, 2, 0, 3] rfl) h
set_option maxRecDepth 100000 in
set_option maxHeartbeats 4000000 in
theorem wk_JA_fillI_GgivenAt_5_f {p : Program} {l : Launch} {e : Env} {s : State} {m : MethodId} {args : Array Value} {below : List Frame} {meth : Method} {c : Code} {A : Nat → Prop} {D : va_G} {cI cZ cL : ClassId} {a : Nat → Nat} (cx : zz_Cx p s m args meth c "java/util/Arrays" b_JA_fillI 4 none D zz_cl (zz_ty cI cZ cL) A) (post : zz_St → Prop) : ∀ n : Nat, ∀ (x1 : Int32) (x2 : Int32) (x3 : Int32) (u : zz_St) (H : Heap) (locs : List Loc) (ls : Array Slot), zz_Wd D zz_cl A s.heap H locs (gw_C cI cZ cL a u) → lv_has ls 4 [(0, .ref (a 6)), (1, .int x1), (2, .int x2), (3, .int x3)] → wp_JA_fillI_GgivenAt_5_f post n x1 x2 x3 u → W p l e (rm_JA_fillI_GgivenAt) s m args below meth c H locs 0 0 (MQ below (va_Qv post (zz_B D zz_cl (zz_ty cI cZ cL) (gw_C cI cZ cL a) A) A) args s 0 0 A) (F0 m 5 ls []) := by
  intro n
  induction n with
  | zero => exact fun _ _ _ _ _ _ _ _ _ h => False.elim h
  | succ n ih => exact wk_JA_fillI_GgivenAt_5 cx post ih
set_option maxRecDepth 100000 in
set_option maxHeartbeats 4000000 in
theorem ct_JA_fillI_GgivenAt (l : Launch) (D : va_G) (cI cZ cL : ClassId) (a : Nat → Nat) {a1 : Int32} {u : zz_St} {post : zz_St → Prop} (h : wp_JA_fillI_GgivenAt  a1 u post) : zz_MV l y_JA_fillI (.code y_JA_fillI b_JA_fillI 4 none :: zz_tbl) (rm_JA_fillI_GgivenAt) D zz_cl (zz_ty cI cZ cL) (gw_C cI cZ cL a) [.ref (a 6), .int a1] u post := by
  unfold wp_JA_fillI_GgivenAt at h
  refine zz_ofV (by decide) (Nat.le_of_ble_eq_true rfl) ?_
  intro p e s m below meth c A cx hw ls hl
  obtain ⟨hx, hb, hr, hml, hown, hts, hlk, hK, hA⟩ := id cx
  refine lv_iconst (v := 0) hx hb d_JA_fillI_0 (by decide) ?_
  refine lv_istore_n (lv' := [(2, .int 0), (0, .ref (a 6)), (1, .int a1)]) hx hb d_JA_fillI_1 rfl hl (by decide) rfl (fun ls hl => ?_)
  refine lv_aload_n hx hb d_JA_fillI_2 rfl (lv_at hl 1 rfl) ?_
  refine va_alen (v := 36) hx hb hK hw.1 6 0 rfl rfl rfl d_JA_fillI_3 ?_
  refine lv_istore_n (lv' := [(3, .int 36), (2, .int 0), (0, .ref (a 6)), (1, .int a1)]) hx hb d_JA_fillI_4 rfl hl (by decide) rfl (fun ls hl => ?_)
  obtain ⟨n, h⟩ := h
  exact wk_JA_fillI_GgivenAt_5_f cx post  n a1 0 36 u _ _ _ hw (lv_sub hl [2, 3, 1, 0] rfl) h
set_option maxRecDepth 100000 in
set_option maxHeartbeats 4000000 in
theorem wk_JA_fillJ_LlowOfLength_6 {p : Program} {l : Launch} {e : Env} {s : State} {m : MethodId} {args : Array Value} {below : List Frame} {meth : Method} {c : Code} {A : Nat → Prop} {D : va_G} {cI cZ cL : ClassId} {a : Nat → Nat} (cx : zz_Cx p s m args meth c "java/util/Arrays" b_JA_fillJ 5 none D zz_cl (zz_ty cI cZ cL) A) (post : zz_St → Prop) {kn6 : Int64 → Int32 → Int32 → zz_St → Prop} (hkn6 : ∀ (x1 : Int64) (x3 : Int32) (x4 : Int32) (u : zz_St) (H : Heap) (locs : List Loc) (ls : Array Slot), zz_Wd D zz_cl A s.heap H locs (gw_C cI cZ cL a u) → lv_has ls 5 [(0, .ref (a 22)), (1, .long x1), (3, .int x3), (4, .int x4)] → kn6 x1 x3 x4 u → W p l e (rm_JA_fillJ_LlowOfLength) s m args below meth c H locs 0 0 (MQ below (va_Qv post (zz_B D zz_cl (zz_ty cI cZ cL) (gw_C cI cZ cL a) A) A) args s 0 0 A) (F0 m 6 ls [])) : ∀ (x1 : Int64) (x3 : Int32) (x4 : Int32) (u : zz_St) (H : Heap) (locs : List Loc) (ls : Array Slot), zz_Wd D zz_cl A s.heap H locs (gw_C cI cZ cL a u) → lv_has ls 5 [(0, .ref (a 22)), (1, .long x1), (3, .int x3), (4, .int x4)] → wp_JA_fillJ_LlowOfLength_6 post kn6 x1 x3 x4 u → W p l e (rm_JA_fillJ_LlowOfLength) s m args below meth c H locs 0 0 (MQ below (va_Qv post (zz_B D zz_cl (zz_ty cI cZ cL) (gw_C cI cZ cL a) A) A) args s 0 0 A) (F0 m 6 ls []) := by
  intro x1 x3 x4 u H locs ls hw hl h
  unfold wp_JA_fillJ_LlowOfLength_6 at h
  obtain ⟨hx, hb, hr, hml, hown, hts, hlk, hK, hA⟩ := id cx
  refine lv_iload_n hx hb d_JA_fillJ_6 rfl (lv_at hl 2 rfl) ?_
  refine lv_iload hx hb d_JA_fillJ_7 (lv_at hl 3 rfl) ?_
  refine lv_icmp_ge (tgt := 22) hx hb d_JA_fillJ_9 (by decide) (fun c1 => ?_) (fun c1 => ?_)
  · replace h := h.1 c1
    exact zz_retv cx hw d_JA_fillJ_22 h
  · replace h := h.2 c1
    refine lv_aload_n hx hb d_JA_fillJ_12 rfl (lv_at hl 0 rfl) ?_
    refine lv_iload_n hx hb d_JA_fillJ_13 rfl (lv_at hl 2 rfl) ?_
    refine lv_lload_n hx hb d_JA_fillJ_14 rfl (lv_at hl 1 rfl) ?_
    obtain ⟨hi, h⟩ := h
    refine zz_last (ws' := gw_C cI cZ cL a (ss_b u 0 (vp_updL (sg_b u 0) x3.toNatClampNeg x1))) cx hw 22 2 rfl rfl hi rfl (gw_C_b0 _ _ _ _ _ _) d_JA_fillJ_15 (fun H locs hw => ?_)
    refine lv_iinc (v := x3 + 1) (lv' := [(3, .int (x3 + 1)), (0, .ref (a 22)), (1, .long x1), (4, .int x4)]) hx hb d_JA_fillJ_16 hl (k := 2) rfl rfl (by decide) rfl (fun ls hl => ?_)
    refine lv_goto (tgt := 6) hx hb d_JA_fillJ_19 (by decide) ?_
    exact hkn6 x1 (x3 + 1) x4 (ss_b u 0 (vp_updL (sg_b u 0) x3.toNatClampNeg x1)) _ _ _ hw (lv_sub hl [1, 2, 0, 3] rfl) h
set_option maxRecDepth 100000 in
set_option maxHeartbeats 4000000 in
theorem wk_JA_fillJ_LlowOfLength_6_f {p : Program} {l : Launch} {e : Env} {s : State} {m : MethodId} {args : Array Value} {below : List Frame} {meth : Method} {c : Code} {A : Nat → Prop} {D : va_G} {cI cZ cL : ClassId} {a : Nat → Nat} (cx : zz_Cx p s m args meth c "java/util/Arrays" b_JA_fillJ 5 none D zz_cl (zz_ty cI cZ cL) A) (post : zz_St → Prop) : ∀ n : Nat, ∀ (x1 : Int64) (x3 : Int32) (x4 : Int32) (u : zz_St) (H : Heap) (locs : List Loc) (ls : Array Slot), zz_Wd D zz_cl A s.heap H locs (gw_C cI cZ cL a u) → lv_has ls 5 [(0, .ref (a 22)), (1, .long x1), (3, .int x3), (4, .int x4)] → wp_JA_fillJ_LlowOfLength_6_f post n x1 x3 x4 u → W p l e (rm_JA_fillJ_LlowOfLength) s m args below meth c H locs 0 0 (MQ below (va_Qv post (zz_B D zz_cl (zz_ty cI cZ cL) (gw_C cI cZ cL a) A) A) args s 0 0 A) (F0 m 6 ls []) := by
  intro n
  induction n with
  | zero => exact fun _ _ _ _ _ _ _ _ _ h => False.elim h
  | succ n ih => exact wk_JA_fillJ_LlowOfLength_6 cx post ih
set_option maxRecDepth 100000 in
set_option maxHeartbeats 4000000 in
theorem ct_JA_fillJ_LlowOfLength (l : Launch) (D : va_G) (cI cZ cL : ClassId) (a : Nat → Nat) {a1 : Int64} {u : zz_St} {post : zz_St → Prop} (h : wp_JA_fillJ_LlowOfLength  a1 u post) : zz_MV l y_JA_fillJ (.code y_JA_fillJ b_JA_fillJ 5 none :: zz_tbl) (rm_JA_fillJ_LlowOfLength) D zz_cl (zz_ty cI cZ cL) (gw_C cI cZ cL a) [.ref (a 22), .long a1] u post := by
  unfold wp_JA_fillJ_LlowOfLength at h
  refine zz_ofV (by decide) (Nat.le_of_ble_eq_true rfl) ?_
  intro p e s m below meth c A cx hw ls hl
  obtain ⟨hx, hb, hr, hml, hown, hts, hlk, hK, hA⟩ := id cx
  refine lv_iconst (v := 0) hx hb d_JA_fillJ_0 (by decide) ?_
  refine lv_istore_n (lv' := [(3, .int 0), (0, .ref (a 22)), (1, .long a1)]) hx hb d_JA_fillJ_1 rfl hl (by decide) rfl (fun ls hl => ?_)
  refine lv_aload_n hx hb d_JA_fillJ_2 rfl (lv_at hl 1 rfl) ?_
  refine va_alen (v := 7) hx hb hK hw.1 22 2 rfl rfl rfl d_JA_fillJ_3 ?_
  refine lv_istore (lv' := [(4, .int 7), (3, .int 0), (0, .ref (a 22)), (1, .long a1)]) hx hb d_JA_fillJ_4 hl (by decide) rfl (fun ls hl => ?_)
  obtain ⟨n, h⟩ := h
  exact wk_JA_fillJ_LlowOfLength_6_f cx post  n a1 0 7 u _ _ _ hw (lv_sub hl [2, 3, 1, 0] rfl) h
set_option maxRecDepth 100000 in
set_option maxHeartbeats 4000000 in
theorem wk_JA_fillJ_LhighOfLength_6 {p : Program} {l : Launch} {e : Env} {s : State} {m : MethodId} {args : Array Value} {below : List Frame} {meth : Method} {c : Code} {A : Nat → Prop} {D : va_G} {cI cZ cL : ClassId} {a : Nat → Nat} (cx : zz_Cx p s m args meth c "java/util/Arrays" b_JA_fillJ 5 none D zz_cl (zz_ty cI cZ cL) A) (post : zz_St → Prop) {kn6 : Int64 → Int32 → Int32 → zz_St → Prop} (hkn6 : ∀ (x1 : Int64) (x3 : Int32) (x4 : Int32) (u : zz_St) (H : Heap) (locs : List Loc) (ls : Array Slot), zz_Wd D zz_cl A s.heap H locs (gw_C cI cZ cL a u) → lv_has ls 5 [(0, .ref (a 23)), (1, .long x1), (3, .int x3), (4, .int x4)] → kn6 x1 x3 x4 u → W p l e (rm_JA_fillJ_LhighOfLength) s m args below meth c H locs 0 0 (MQ below (va_Qv post (zz_B D zz_cl (zz_ty cI cZ cL) (gw_C cI cZ cL a) A) A) args s 0 0 A) (F0 m 6 ls [])) : ∀ (x1 : Int64) (x3 : Int32) (x4 : Int32) (u : zz_St) (H : Heap) (locs : List Loc) (ls : Array Slot), zz_Wd D zz_cl A s.heap H locs (gw_C cI cZ cL a u) → lv_has ls 5 [(0, .ref (a 23)), (1, .long x1), (3, .int x3), (4, .int x4)] → wp_JA_fillJ_LhighOfLength_6 post kn6 x1 x3 x4 u → W p l e (rm_JA_fillJ_LhighOfLength) s m args below meth c H locs 0 0 (MQ below (va_Qv post (zz_B D zz_cl (zz_ty cI cZ cL) (gw_C cI cZ cL a) A) A) args s 0 0 A) (F0 m 6 ls []) := by
  intro x1 x3 x4 u H locs ls hw hl h
  unfold wp_JA_fillJ_LhighOfLength_6 at h
  obtain ⟨hx, hb, hr, hml, hown, hts, hlk, hK, hA⟩ := id cx
  refine lv_iload_n hx hb d_JA_fillJ_6 rfl (lv_at hl 2 rfl) ?_
  refine lv_iload hx hb d_JA_fillJ_7 (lv_at hl 3 rfl) ?_
  refine lv_icmp_ge (tgt := 22) hx hb d_JA_fillJ_9 (by decide) (fun c1 => ?_) (fun c1 => ?_)
  · replace h := h.1 c1
    exact zz_retv cx hw d_JA_fillJ_22 h
  · replace h := h.2 c1
    refine lv_aload_n hx hb d_JA_fillJ_12 rfl (lv_at hl 0 rfl) ?_
    refine lv_iload_n hx hb d_JA_fillJ_13 rfl (lv_at hl 2 rfl) ?_
    refine lv_lload_n hx hb d_JA_fillJ_14 rfl (lv_at hl 1 rfl) ?_
    obtain ⟨hi, h⟩ := h
    refine zz_last (ws' := gw_C cI cZ cL a (ss_b u 1 (vp_updL (sg_b u 1) x3.toNatClampNeg x1))) cx hw 23 2 rfl rfl hi rfl (gw_C_b1 _ _ _ _ _ _) d_JA_fillJ_15 (fun H locs hw => ?_)
    refine lv_iinc (v := x3 + 1) (lv' := [(3, .int (x3 + 1)), (0, .ref (a 23)), (1, .long x1), (4, .int x4)]) hx hb d_JA_fillJ_16 hl (k := 2) rfl rfl (by decide) rfl (fun ls hl => ?_)
    refine lv_goto (tgt := 6) hx hb d_JA_fillJ_19 (by decide) ?_
    exact hkn6 x1 (x3 + 1) x4 (ss_b u 1 (vp_updL (sg_b u 1) x3.toNatClampNeg x1)) _ _ _ hw (lv_sub hl [1, 2, 0, 3] rfl) h
set_option maxRecDepth 100000 in
set_option maxHeartbeats 4000000 in
theorem wk_JA_fillJ_LhighOfLength_6_f {p : Program} {l : Launch} {e : Env} {s : State} {m : MethodId} {args : Array Value} {below : List Frame} {meth : Method} {c : Code} {A : Nat → Prop} {D : va_G} {cI cZ cL : ClassId} {a : Nat → Nat} (cx : zz_Cx p s m args meth c "java/util/Arrays" b_JA_fillJ 5 none D zz_cl (zz_ty cI cZ cL) A) (post : zz_St → Prop) : ∀ n : Nat, ∀ (x1 : Int64) (x3 : Int32) (x4 : Int32) (u : zz_St) (H : Heap) (locs : List Loc) (ls : Array Slot), zz_Wd D zz_cl A s.heap H locs (gw_C cI cZ cL a u) → lv_has ls 5 [(0, .ref (a 23)), (1, .long x1), (3, .int x3), (4, .int x4)] → wp_JA_fillJ_LhighOfLength_6_f post n x1 x3 x4 u → W p l e (rm_JA_fillJ_LhighOfLength) s m args below meth c H locs 0 0 (MQ below (va_Qv post (zz_B D zz_cl (zz_ty cI cZ cL) (gw_C cI cZ cL a) A) A) args s 0 0 A) (F0 m 6 ls []) := by
  intro n
  induction n with
  | zero => exact fun _ _ _ _ _ _ _ _ _ h => False.elim h
  | succ n ih => exact wk_JA_fillJ_LhighOfLength_6 cx post ih
set_option maxRecDepth 100000 in
set_option maxHeartbeats 4000000 in
theorem ct_JA_fillJ_LhighOfLength (l : Launch) (D : va_G) (cI cZ cL : ClassId) (a : Nat → Nat) {a1 : Int64} {u : zz_St} {post : zz_St → Prop} (h : wp_JA_fillJ_LhighOfLength  a1 u post) : zz_MV l y_JA_fillJ (.code y_JA_fillJ b_JA_fillJ 5 none :: zz_tbl) (rm_JA_fillJ_LhighOfLength) D zz_cl (zz_ty cI cZ cL) (gw_C cI cZ cL a) [.ref (a 23), .long a1] u post := by
  unfold wp_JA_fillJ_LhighOfLength at h
  refine zz_ofV (by decide) (Nat.le_of_ble_eq_true rfl) ?_
  intro p e s m below meth c A cx hw ls hl
  obtain ⟨hx, hb, hr, hml, hown, hts, hlk, hK, hA⟩ := id cx
  refine lv_iconst (v := 0) hx hb d_JA_fillJ_0 (by decide) ?_
  refine lv_istore_n (lv' := [(3, .int 0), (0, .ref (a 23)), (1, .long a1)]) hx hb d_JA_fillJ_1 rfl hl (by decide) rfl (fun ls hl => ?_)
  refine lv_aload_n hx hb d_JA_fillJ_2 rfl (lv_at hl 1 rfl) ?_
  refine va_alen (v := 7) hx hb hK hw.1 23 2 rfl rfl rfl d_JA_fillJ_3 ?_
  refine lv_istore (lv' := [(4, .int 7), (3, .int 0), (0, .ref (a 23)), (1, .long a1)]) hx hb d_JA_fillJ_4 hl (by decide) rfl (fun ls hl => ?_)
  obtain ⟨n, h⟩ := h
  exact wk_JA_fillJ_LhighOfLength_6_f cx post  n a1 0 7 u _ _ _ hw (lv_sub hl [2, 3, 1, 0] rfl) h
set_option maxRecDepth 100000 in
set_option maxHeartbeats 4000000 in
theorem wk_JA_fillJ_LlowOfKey_6 {p : Program} {l : Launch} {e : Env} {s : State} {m : MethodId} {args : Array Value} {below : List Frame} {meth : Method} {c : Code} {A : Nat → Prop} {D : va_G} {cI cZ cL : ClassId} {a : Nat → Nat} (cx : zz_Cx p s m args meth c "java/util/Arrays" b_JA_fillJ 5 none D zz_cl (zz_ty cI cZ cL) A) (post : zz_St → Prop) {kn6 : Int64 → Int32 → Int32 → zz_St → Prop} (hkn6 : ∀ (x1 : Int64) (x3 : Int32) (x4 : Int32) (u : zz_St) (H : Heap) (locs : List Loc) (ls : Array Slot), zz_Wd D zz_cl A s.heap H locs (gw_C cI cZ cL a u) → lv_has ls 5 [(0, .ref (a 24)), (1, .long x1), (3, .int x3), (4, .int x4)] → kn6 x1 x3 x4 u → W p l e (rm_JA_fillJ_LlowOfKey) s m args below meth c H locs 0 0 (MQ below (va_Qv post (zz_B D zz_cl (zz_ty cI cZ cL) (gw_C cI cZ cL a) A) A) args s 0 0 A) (F0 m 6 ls [])) : ∀ (x1 : Int64) (x3 : Int32) (x4 : Int32) (u : zz_St) (H : Heap) (locs : List Loc) (ls : Array Slot), zz_Wd D zz_cl A s.heap H locs (gw_C cI cZ cL a u) → lv_has ls 5 [(0, .ref (a 24)), (1, .long x1), (3, .int x3), (4, .int x4)] → wp_JA_fillJ_LlowOfKey_6 post kn6 x1 x3 x4 u → W p l e (rm_JA_fillJ_LlowOfKey) s m args below meth c H locs 0 0 (MQ below (va_Qv post (zz_B D zz_cl (zz_ty cI cZ cL) (gw_C cI cZ cL a) A) A) args s 0 0 A) (F0 m 6 ls []) := by
  intro x1 x3 x4 u H locs ls hw hl h
  unfold wp_JA_fillJ_LlowOfKey_6 at h
  obtain ⟨hx, hb, hr, hml, hown, hts, hlk, hK, hA⟩ := id cx
  refine lv_iload_n hx hb d_JA_fillJ_6 rfl (lv_at hl 2 rfl) ?_
  refine lv_iload hx hb d_JA_fillJ_7 (lv_at hl 3 rfl) ?_
  refine lv_icmp_ge (tgt := 22) hx hb d_JA_fillJ_9 (by decide) (fun c1 => ?_) (fun c1 => ?_)
  · replace h := h.1 c1
    exact zz_retv cx hw d_JA_fillJ_22 h
  · replace h := h.2 c1
    refine lv_aload_n hx hb d_JA_fillJ_12 rfl (lv_at hl 0 rfl) ?_
    refine lv_iload_n hx hb d_JA_fillJ_13 rfl (lv_at hl 2 rfl) ?_
    refine lv_lload_n hx hb d_JA_fillJ_14 rfl (lv_at hl 1 rfl) ?_
    obtain ⟨hi, h⟩ := h
    refine zz_last (ws' := gw_C cI cZ cL a (ss_b u 2 (vp_updL (sg_b u 2) x3.toNatClampNeg x1))) cx hw 24 2 rfl rfl hi rfl (gw_C_b2 _ _ _ _ _ _) d_JA_fillJ_15 (fun H locs hw => ?_)
    refine lv_iinc (v := x3 + 1) (lv' := [(3, .int (x3 + 1)), (0, .ref (a 24)), (1, .long x1), (4, .int x4)]) hx hb d_JA_fillJ_16 hl (k := 2) rfl rfl (by decide) rfl (fun ls hl => ?_)
    refine lv_goto (tgt := 6) hx hb d_JA_fillJ_19 (by decide) ?_
    exact hkn6 x1 (x3 + 1) x4 (ss_b u 2 (vp_updL (sg_b u 2) x3.toNatClampNeg x1)) _ _ _ hw (lv_sub hl [1, 2, 0, 3] rfl) h
set_option maxRecDepth 100000 in
set_option maxHeartbeats 4000000 in
theorem wk_JA_fillJ_LlowOfKey_6_f {p : Program} {l : Launch} {e : Env} {s : State} {m : MethodId} {args : Array Value} {below : List Frame} {meth : Method} {c : Code} {A : Nat → Prop} {D : va_G} {cI cZ cL : ClassId} {a : Nat → Nat} (cx : zz_Cx p s m args meth c "java/util/Arrays" b_JA_fillJ 5 none D zz_cl (zz_ty cI cZ cL) A) (post : zz_St → Prop) : ∀ n : Nat, ∀ (x1 : Int64) (x3 : Int32) (x4 : Int32) (u : zz_St) (H : Heap) (locs : List Loc) (ls : Array Slot), zz_Wd D zz_cl A s.heap H locs (gw_C cI cZ cL a u) → lv_has ls 5 [(0, .ref (a 24)), (1, .long x1), (3, .int x3), (4, .int x4)] → wp_JA_fillJ_LlowOfKey_6_f post n x1 x3 x4 u → W p l e (rm_JA_fillJ_LlowOfKey) s m args below meth c H locs 0 0 (MQ below (va_Qv post (zz_B D zz_cl (zz_ty cI cZ cL) (gw_C cI cZ cL a) A) A) args s 0 0 A) (F0 m 6 ls []) := by
  intro n
  induction n with
  | zero => exact fun _ _ _ _ _ _ _ _ _ h => False.elim h
  | succ n ih => exact wk_JA_fillJ_LlowOfKey_6 cx post ih
set_option maxRecDepth 100000 in
set_option maxHeartbeats 4000000 in
theorem ct_JA_fillJ_LlowOfKey (l : Launch) (D : va_G) (cI cZ cL : ClassId) (a : Nat → Nat) {a1 : Int64} {u : zz_St} {post : zz_St → Prop} (h : wp_JA_fillJ_LlowOfKey  a1 u post) : zz_MV l y_JA_fillJ (.code y_JA_fillJ b_JA_fillJ 5 none :: zz_tbl) (rm_JA_fillJ_LlowOfKey) D zz_cl (zz_ty cI cZ cL) (gw_C cI cZ cL a) [.ref (a 24), .long a1] u post := by
  unfold wp_JA_fillJ_LlowOfKey at h
  refine zz_ofV (by decide) (Nat.le_of_ble_eq_true rfl) ?_
  intro p e s m below meth c A cx hw ls hl
  obtain ⟨hx, hb, hr, hml, hown, hts, hlk, hK, hA⟩ := id cx
  refine lv_iconst (v := 0) hx hb d_JA_fillJ_0 (by decide) ?_
  refine lv_istore_n (lv' := [(3, .int 0), (0, .ref (a 24)), (1, .long a1)]) hx hb d_JA_fillJ_1 rfl hl (by decide) rfl (fun ls hl => ?_)
  refine lv_aload_n hx hb d_JA_fillJ_2 rfl (lv_at hl 1 rfl) ?_
  refine va_alen (v := 156) hx hb hK hw.1 24 2 rfl rfl rfl d_JA_fillJ_3 ?_
  refine lv_istore (lv' := [(4, .int 156), (3, .int 0), (0, .ref (a 24)), (1, .long a1)]) hx hb d_JA_fillJ_4 hl (by decide) rfl (fun ls hl => ?_)
  obtain ⟨n, h⟩ := h
  exact wk_JA_fillJ_LlowOfKey_6_f cx post  n a1 0 156 u _ _ _ hw (lv_sub hl [2, 3, 1, 0] rfl) h
set_option maxRecDepth 100000 in
set_option maxHeartbeats 4000000 in
theorem wk_JA_fillJ_LhighOfKey_6 {p : Program} {l : Launch} {e : Env} {s : State} {m : MethodId} {args : Array Value} {below : List Frame} {meth : Method} {c : Code} {A : Nat → Prop} {D : va_G} {cI cZ cL : ClassId} {a : Nat → Nat} (cx : zz_Cx p s m args meth c "java/util/Arrays" b_JA_fillJ 5 none D zz_cl (zz_ty cI cZ cL) A) (post : zz_St → Prop) {kn6 : Int64 → Int32 → Int32 → zz_St → Prop} (hkn6 : ∀ (x1 : Int64) (x3 : Int32) (x4 : Int32) (u : zz_St) (H : Heap) (locs : List Loc) (ls : Array Slot), zz_Wd D zz_cl A s.heap H locs (gw_C cI cZ cL a u) → lv_has ls 5 [(0, .ref (a 25)), (1, .long x1), (3, .int x3), (4, .int x4)] → kn6 x1 x3 x4 u → W p l e (rm_JA_fillJ_LhighOfKey) s m args below meth c H locs 0 0 (MQ below (va_Qv post (zz_B D zz_cl (zz_ty cI cZ cL) (gw_C cI cZ cL a) A) A) args s 0 0 A) (F0 m 6 ls [])) : ∀ (x1 : Int64) (x3 : Int32) (x4 : Int32) (u : zz_St) (H : Heap) (locs : List Loc) (ls : Array Slot), zz_Wd D zz_cl A s.heap H locs (gw_C cI cZ cL a u) → lv_has ls 5 [(0, .ref (a 25)), (1, .long x1), (3, .int x3), (4, .int x4)] → wp_JA_fillJ_LhighOfKey_6 post kn6 x1 x3 x4 u → W p l e (rm_JA_fillJ_LhighOfKey) s m args below meth c H locs 0 0 (MQ below (va_Qv post (zz_B D zz_cl (zz_ty cI cZ cL) (gw_C cI cZ cL a) A) A) args s 0 0 A) (F0 m 6 ls []) := by
  intro x1 x3 x4 u H locs ls hw hl h
  unfold wp_JA_fillJ_LhighOfKey_6 at h
  obtain ⟨hx, hb, hr, hml, hown, hts, hlk, hK, hA⟩ := id cx
  refine lv_iload_n hx hb d_JA_fillJ_6 rfl (lv_at hl 2 rfl) ?_
  refine lv_iload hx hb d_JA_fillJ_7 (lv_at hl 3 rfl) ?_
  refine lv_icmp_ge (tgt := 22) hx hb d_JA_fillJ_9 (by decide) (fun c1 => ?_) (fun c1 => ?_)
  · replace h := h.1 c1
    exact zz_retv cx hw d_JA_fillJ_22 h
  · replace h := h.2 c1
    refine lv_aload_n hx hb d_JA_fillJ_12 rfl (lv_at hl 0 rfl) ?_
    refine lv_iload_n hx hb d_JA_fillJ_13 rfl (lv_at hl 2 rfl) ?_
    refine lv_lload_n hx hb d_JA_fillJ_14 rfl (lv_at hl 1 rfl) ?_
    obtain ⟨hi, h⟩ := h
    refine zz_last (ws' := gw_C cI cZ cL a (ss_b u 3 (vp_updL (sg_b u 3) x3.toNatClampNeg x1))) cx hw 25 2 rfl rfl hi rfl (gw_C_b3 _ _ _ _ _ _) d_JA_fillJ_15 (fun H locs hw => ?_)
    refine lv_iinc (v := x3 + 1) (lv' := [(3, .int (x3 + 1)), (0, .ref (a 25)), (1, .long x1), (4, .int x4)]) hx hb d_JA_fillJ_16 hl (k := 2) rfl rfl (by decide) rfl (fun ls hl => ?_)
    refine lv_goto (tgt := 6) hx hb d_JA_fillJ_19 (by decide) ?_
    exact hkn6 x1 (x3 + 1) x4 (ss_b u 3 (vp_updL (sg_b u 3) x3.toNatClampNeg x1)) _ _ _ hw (lv_sub hl [1, 2, 0, 3] rfl) h
set_option maxRecDepth 100000 in
set_option maxHeartbeats 4000000 in
theorem wk_JA_fillJ_LhighOfKey_6_f {p : Program} {l : Launch} {e : Env} {s : State} {m : MethodId} {args : Array Value} {below : List Frame} {meth : Method} {c : Code} {A : Nat → Prop} {D : va_G} {cI cZ cL : ClassId} {a : Nat → Nat} (cx : zz_Cx p s m args meth c "java/util/Arrays" b_JA_fillJ 5 none D zz_cl (zz_ty cI cZ cL) A) (post : zz_St → Prop) : ∀ n : Nat, ∀ (x1 : Int64) (x3 : Int32) (x4 : Int32) (u : zz_St) (H : Heap) (locs : List Loc) (ls : Array Slot), zz_Wd D zz_cl A s.heap H locs (gw_C cI cZ cL a u) → lv_has ls 5 [(0, .ref (a 25)), (1, .long x1), (3, .int x3), (4, .int x4)] → wp_JA_fillJ_LhighOfKey_6_f post n x1 x3 x4 u → W p l e (rm_JA_fillJ_LhighOfKey) s m args below meth c H locs 0 0 (MQ below (va_Qv post (zz_B D zz_cl (zz_ty cI cZ cL) (gw_C cI cZ cL a) A) A) args s 0 0 A) (F0 m 6 ls []) := by
  intro n
  induction n with
  | zero => exact fun _ _ _ _ _ _ _ _ _ h => False.elim h
  | succ n ih => exact wk_JA_fillJ_LhighOfKey_6 cx post ih
set_option maxRecDepth 100000 in
set_option maxHeartbeats 4000000 in
theorem ct_JA_fillJ_LhighOfKey (l : Launch) (D : va_G) (cI cZ cL : ClassId) (a : Nat → Nat) {a1 : Int64} {u : zz_St} {post : zz_St → Prop} (h : wp_JA_fillJ_LhighOfKey  a1 u post) : zz_MV l y_JA_fillJ (.code y_JA_fillJ b_JA_fillJ 5 none :: zz_tbl) (rm_JA_fillJ_LhighOfKey) D zz_cl (zz_ty cI cZ cL) (gw_C cI cZ cL a) [.ref (a 25), .long a1] u post := by
  unfold wp_JA_fillJ_LhighOfKey at h
  refine zz_ofV (by decide) (Nat.le_of_ble_eq_true rfl) ?_
  intro p e s m below meth c A cx hw ls hl
  obtain ⟨hx, hb, hr, hml, hown, hts, hlk, hK, hA⟩ := id cx
  refine lv_iconst (v := 0) hx hb d_JA_fillJ_0 (by decide) ?_
  refine lv_istore_n (lv' := [(3, .int 0), (0, .ref (a 25)), (1, .long a1)]) hx hb d_JA_fillJ_1 rfl hl (by decide) rfl (fun ls hl => ?_)
  refine lv_aload_n hx hb d_JA_fillJ_2 rfl (lv_at hl 1 rfl) ?_
  refine va_alen (v := 156) hx hb hK hw.1 25 2 rfl rfl rfl d_JA_fillJ_3 ?_
  refine lv_istore (lv' := [(4, .int 156), (3, .int 0), (0, .ref (a 25)), (1, .long a1)]) hx hb d_JA_fillJ_4 hl (by decide) rfl (fun ls hl => ?_)
  obtain ⟨n, h⟩ := h
  exact wk_JA_fillJ_LhighOfKey_6_f cx post  n a1 0 156 u _ _ _ hw (lv_sub hl [2, 3, 1, 0] rfl) h
end
