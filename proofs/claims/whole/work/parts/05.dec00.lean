theorem d_JL_bitCount_0 : decode b_JL_bitCount 0 = .ok (.lload_n 0, 1) := by decide +kernel
theorem d_JL_bitCount_1 : decode b_JL_bitCount 1 = .ok (.lload_n 0, 1) := by decide +kernel
theorem d_JL_bitCount_2 : decode b_JL_bitCount 2 = .ok (.iconst 1, 1) := by decide +kernel
theorem d_JL_bitCount_3 : decode b_JL_bitCount 3 = .ok (.lushr, 1) := by decide +kernel
theorem d_JL_bitCount_4 : decode b_JL_bitCount 4 = .ok (.ldc2_w 314, 3) := by decide +kernel
theorem d_JL_bitCount_7 : decode b_JL_bitCount 7 = .ok (.land, 1) := by decide +kernel
theorem d_JL_bitCount_8 : decode b_JL_bitCount 8 = .ok (.lsub, 1) := by decide +kernel
theorem d_JL_bitCount_9 : decode b_JL_bitCount 9 = .ok (.lstore_n 0, 1) := by decide +kernel
theorem d_JL_bitCount_10 : decode b_JL_bitCount 10 = .ok (.lload_n 0, 1) := by decide +kernel
theorem d_JL_bitCount_11 : decode b_JL_bitCount 11 = .ok (.ldc2_w 316, 3) := by decide +kernel
theorem d_JL_bitCount_14 : decode b_JL_bitCount 14 = .ok (.land, 1) := by decide +kernel
theorem d_JL_bitCount_15 : decode b_JL_bitCount 15 = .ok (.lload_n 0, 1) := by decide +kernel
theorem d_JL_bitCount_16 : decode b_JL_bitCount 16 = .ok (.iconst 2, 1) := by decide +kernel
theorem d_JL_bitCount_17 : decode b_JL_bitCount 17 = .ok (.lushr, 1) := by decide +kernel
theorem d_JL_bitCount_18 : decode b_JL_bitCount 18 = .ok (.ldc2_w 316, 3) := by decide +kernel
theorem d_JL_bitCount_21 : decode b_JL_bitCount 21 = .ok (.land, 1) := by decide +kernel
theorem d_JL_bitCount_22 : decode b_JL_bitCount 22 = .ok (.ladd, 1) := by decide +kernel
theorem d_JL_bitCount_23 : decode b_JL_bitCount 23 = .ok (.lstore_n 0, 1) := by decide +kernel
theorem d_JL_bitCount_24 : decode b_JL_bitCount 24 = .ok (.lload_n 0, 1) := by decide +kernel
theorem d_JL_bitCount_25 : decode b_JL_bitCount 25 = .ok (.lload_n 0, 1) := by decide +kernel
theorem d_JL_bitCount_26 : decode b_JL_bitCount 26 = .ok (.iconst 4, 1) := by decide +kernel
theorem d_JL_bitCount_27 : decode b_JL_bitCount 27 = .ok (.lushr, 1) := by decide +kernel
theorem d_JL_bitCount_28 : decode b_JL_bitCount 28 = .ok (.ladd, 1) := by decide +kernel
theorem d_JL_bitCount_29 : decode b_JL_bitCount 29 = .ok (.ldc2_w 318, 3) := by decide +kernel
theorem d_JL_bitCount_32 : decode b_JL_bitCount 32 = .ok (.land, 1) := by decide +kernel
theorem d_JL_bitCount_33 : decode b_JL_bitCount 33 = .ok (.lstore_n 0, 1) := by decide +kernel
theorem d_JL_bitCount_34 : decode b_JL_bitCount 34 = .ok (.lload_n 0, 1) := by decide +kernel
theorem d_JL_bitCount_35 : decode b_JL_bitCount 35 = .ok (.lload_n 0, 1) := by decide +kernel
theorem d_JL_bitCount_36 : decode b_JL_bitCount 36 = .ok (.bipush 8, 2) := by decide +kernel
theorem d_JL_bitCount_38 : decode b_JL_bitCount 38 = .ok (.lushr, 1) := by decide +kernel
theorem d_JL_bitCount_39 : decode b_JL_bitCount 39 = .ok (.ladd, 1) := by decide +kernel
theorem d_JL_bitCount_40 : decode b_JL_bitCount 40 = .ok (.lstore_n 0, 1) := by decide +kernel
theorem d_JL_bitCount_41 : decode b_JL_bitCount 41 = .ok (.lload_n 0, 1) := by decide +kernel
theorem d_JL_bitCount_42 : decode b_JL_bitCount 42 = .ok (.lload_n 0, 1) := by decide +kernel
theorem d_JL_bitCount_43 : decode b_JL_bitCount 43 = .ok (.bipush 16, 2) := by decide +kernel
theorem d_JL_bitCount_45 : decode b_JL_bitCount 45 = .ok (.lushr, 1) := by decide +kernel
theorem d_JL_bitCount_46 : decode b_JL_bitCount 46 = .ok (.ladd, 1) := by decide +kernel
theorem d_JL_bitCount_47 : decode b_JL_bitCount 47 = .ok (.lstore_n 0, 1) := by decide +kernel
theorem d_JL_bitCount_48 : decode b_JL_bitCount 48 = .ok (.lload_n 0, 1) := by decide +kernel
theorem d_JL_bitCount_49 : decode b_JL_bitCount 49 = .ok (.lload_n 0, 1) := by decide +kernel
theorem d_JL_bitCount_50 : decode b_JL_bitCount 50 = .ok (.bipush 32, 2) := by decide +kernel
theorem d_JL_bitCount_52 : decode b_JL_bitCount 52 = .ok (.lushr, 1) := by decide +kernel
theorem d_JL_bitCount_53 : decode b_JL_bitCount 53 = .ok (.ladd, 1) := by decide +kernel
theorem d_JL_bitCount_54 : decode b_JL_bitCount 54 = .ok (.lstore_n 0, 1) := by decide +kernel
theorem d_JL_bitCount_55 : decode b_JL_bitCount 55 = .ok (.lload_n 0, 1) := by decide +kernel
theorem d_JL_bitCount_56 : decode b_JL_bitCount 56 = .ok (.l2i, 1) := by decide +kernel
theorem d_JL_bitCount_57 : decode b_JL_bitCount 57 = .ok (.bipush 127, 2) := by decide +kernel
theorem d_JL_bitCount_59 : decode b_JL_bitCount 59 = .ok (.iand, 1) := by decide +kernel
theorem d_JL_bitCount_60 : decode b_JL_bitCount 60 = .ok (.ireturn, 1) := by decide +kernel
theorem d_JA_fillI_0 : decode b_JA_fillI 0 = .ok (.iconst 0, 1) := by decide +kernel
theorem d_JA_fillI_1 : decode b_JA_fillI 1 = .ok (.istore_n 2, 1) := by decide +kernel
theorem d_JA_fillI_2 : decode b_JA_fillI 2 = .ok (.aload_n 0, 1) := by decide +kernel
theorem d_JA_fillI_3 : decode b_JA_fillI 3 = .ok (.arraylength, 1) := by decide +kernel
theorem d_JA_fillI_4 : decode b_JA_fillI 4 = .ok (.istore_n 3, 1) := by decide +kernel
theorem d_JA_fillI_5 : decode b_JA_fillI 5 = .ok (.iload_n 2, 1) := by decide +kernel
theorem d_JA_fillI_6 : decode b_JA_fillI 6 = .ok (.iload_n 3, 1) := by decide +kernel
theorem d_JA_fillI_7 : decode b_JA_fillI 7 = .ok (.if_icmp .ge 13, 3) := by decide +kernel
theorem d_JA_fillI_10 : decode b_JA_fillI 10 = .ok (.aload_n 0, 1) := by decide +kernel
theorem d_JA_fillI_11 : decode b_JA_fillI 11 = .ok (.iload_n 2, 1) := by decide +kernel
theorem d_JA_fillI_12 : decode b_JA_fillI 12 = .ok (.iload_n 1, 1) := by decide +kernel
theorem d_JA_fillI_13 : decode b_JA_fillI 13 = .ok (.iastore, 1) := by decide +kernel
theorem d_JA_fillI_14 : decode b_JA_fillI 14 = .ok (.iinc 2 1, 3) := by decide +kernel
theorem d_JA_fillI_17 : decode b_JA_fillI 17 = .ok (.goto (-12), 3) := by decide +kernel
theorem d_JA_fillI_20 : decode b_JA_fillI 20 = .ok (.return_, 1) := by decide +kernel
theorem d_JA_fillJ_0 : decode b_JA_fillJ 0 = .ok (.iconst 0, 1) := by decide +kernel
theorem d_JA_fillJ_1 : decode b_JA_fillJ 1 = .ok (.istore_n 3, 1) := by decide +kernel
theorem d_JA_fillJ_2 : decode b_JA_fillJ 2 = .ok (.aload_n 0, 1) := by decide +kernel
theorem d_JA_fillJ_3 : decode b_JA_fillJ 3 = .ok (.arraylength, 1) := by decide +kernel
theorem d_JA_fillJ_4 : decode b_JA_fillJ 4 = .ok (.istore 4, 2) := by decide +kernel
theorem d_JA_fillJ_6 : decode b_JA_fillJ 6 = .ok (.iload_n 3, 1) := by decide +kernel
theorem d_JA_fillJ_7 : decode b_JA_fillJ 7 = .ok (.iload 4, 2) := by decide +kernel
theorem d_JA_fillJ_9 : decode b_JA_fillJ 9 = .ok (.if_icmp .ge 13, 3) := by decide +kernel
theorem d_JA_fillJ_12 : decode b_JA_fillJ 12 = .ok (.aload_n 0, 1) := by decide +kernel
theorem d_JA_fillJ_13 : decode b_JA_fillJ 13 = .ok (.iload_n 3, 1) := by decide +kernel
theorem d_JA_fillJ_14 : decode b_JA_fillJ 14 = .ok (.lload_n 1, 1) := by decide +kernel
theorem d_JA_fillJ_15 : decode b_JA_fillJ 15 = .ok (.lastore, 1) := by decide +kernel
theorem d_JA_fillJ_16 : decode b_JA_fillJ 16 = .ok (.iinc 3 1, 3) := by decide +kernel
theorem d_JA_fillJ_19 : decode b_JA_fillJ 19 = .ok (.goto (-13), 3) := by decide +kernel
theorem d_JA_fillJ_22 : decode b_JA_fillJ 22 = .ok (.return_, 1) := by decide +kernel
theorem d_G_cellAt_0 : decode b_G_cellAt 0 = .ok (.iload_n 1, 1) := by decide +kernel
theorem d_G_cellAt_1 : decode b_G_cellAt 1 = .ok (.ifCond .lt 34, 3) := by decide +kernel
theorem d_G_cellAt_4 : decode b_G_cellAt 4 = .ok (.iload_n 1, 1) := by decide +kernel
theorem d_G_cellAt_5 : decode b_G_cellAt 5 = .ok (.aload_n 0, 1) := by decide +kernel
theorem d_G_cellAt_6 : decode b_G_cellAt 6 = .ok (.getfield 40, 3) := by decide +kernel
theorem d_G_cellAt_9 : decode b_G_cellAt 9 = .ok (.if_icmp .ge 26, 3) := by decide +kernel
theorem d_G_cellAt_12 : decode b_G_cellAt 12 = .ok (.iload_n 2, 1) := by decide +kernel
theorem d_G_cellAt_13 : decode b_G_cellAt 13 = .ok (.ifCond .lt 22, 3) := by decide +kernel
theorem d_G_cellAt_16 : decode b_G_cellAt 16 = .ok (.iload_n 2, 1) := by decide +kernel
theorem d_G_cellAt_17 : decode b_G_cellAt 17 = .ok (.aload_n 0, 1) := by decide +kernel
theorem d_G_cellAt_18 : decode b_G_cellAt 18 = .ok (.getfield 44, 3) := by decide +kernel
theorem d_G_cellAt_21 : decode b_G_cellAt 21 = .ok (.if_icmp .ge 14, 3) := by decide +kernel
theorem d_G_cellAt_24 : decode b_G_cellAt 24 = .ok (.iload_n 1, 1) := by decide +kernel
theorem d_G_cellAt_25 : decode b_G_cellAt 25 = .ok (.aload_n 0, 1) := by decide +kernel
theorem d_G_cellAt_26 : decode b_G_cellAt 26 = .ok (.getfield 40, 3) := by decide +kernel
theorem d_G_cellAt_29 : decode b_G_cellAt 29 = .ok (.iload_n 2, 1) := by decide +kernel
theorem d_G_cellAt_30 : decode b_G_cellAt 30 = .ok (.imul, 1) := by decide +kernel
theorem d_G_cellAt_31 : decode b_G_cellAt 31 = .ok (.iadd, 1) := by decide +kernel
theorem d_G_cellAt_32 : decode b_G_cellAt 32 = .ok (.goto 4, 3) := by decide +kernel
theorem d_G_cellAt_35 : decode b_G_cellAt 35 = .ok (.iconst (-1), 1) := by decide +kernel
theorem d_G_cellAt_36 : decode b_G_cellAt 36 = .ok (.ireturn, 1) := by decide +kernel
theorem d_G_hasSlot_0 : decode b_G_hasSlot 0 = .ok (.iload_n 1, 1) := by decide +kernel
theorem d_G_hasSlot_1 : decode b_G_hasSlot 1 = .ok (.ifCond .lt 15, 3) := by decide +kernel
theorem d_G_hasSlot_4 : decode b_G_hasSlot 4 = .ok (.iload_n 1, 1) := by decide +kernel
theorem d_G_hasSlot_5 : decode b_G_hasSlot 5 = .ok (.aload_n 0, 1) := by decide +kernel
theorem d_G_hasSlot_6 : decode b_G_hasSlot 6 = .ok (.getfield 53, 3) := by decide +kernel
theorem d_G_hasSlot_9 : decode b_G_hasSlot 9 = .ok (.if_icmp .ge 7, 3) := by decide +kernel
theorem d_G_hasSlot_12 : decode b_G_hasSlot 12 = .ok (.iconst 1, 1) := by decide +kernel
theorem d_G_hasSlot_13 : decode b_G_hasSlot 13 = .ok (.goto 4, 3) := by decide +kernel
theorem d_G_hasSlot_16 : decode b_G_hasSlot 16 = .ok (.iconst 0, 1) := by decide +kernel
theorem d_G_hasSlot_17 : decode b_G_hasSlot 17 = .ok (.ireturn, 1) := by decide +kernel
theorem d_G_cellOf_0 : decode b_G_cellOf 0 = .ok (.aload_n 0, 1) := by decide +kernel
theorem d_G_cellOf_1 : decode b_G_cellOf 1 = .ok (.getfield 19, 3) := by decide +kernel
theorem d_G_cellOf_4 : decode b_G_cellOf 4 = .ok (.iload_n 1, 1) := by decide +kernel
theorem d_G_cellOf_5 : decode b_G_cellOf 5 = .ok (.iaload, 1) := by decide +kernel
theorem d_G_cellOf_6 : decode b_G_cellOf 6 = .ok (.iload_n 2, 1) := by decide +kernel
theorem d_G_cellOf_7 : decode b_G_cellOf 7 = .ok (.aload_n 0, 1) := by decide +kernel
theorem d_G_cellOf_8 : decode b_G_cellOf 8 = .ok (.getfield 25, 3) := by decide +kernel
theorem d_G_cellOf_11 : decode b_G_cellOf 11 = .ok (.iload_n 1, 1) := by decide +kernel
theorem d_G_cellOf_12 : decode b_G_cellOf 12 = .ok (.iaload, 1) := by decide +kernel
theorem d_G_cellOf_13 : decode b_G_cellOf 13 = .ok (.ifCond .ne 7, 3) := by decide +kernel
theorem d_G_cellOf_16 : decode b_G_cellOf 16 = .ok (.iconst 1, 1) := by decide +kernel
theorem d_G_cellOf_17 : decode b_G_cellOf 17 = .ok (.goto 7, 3) := by decide +kernel
theorem d_G_cellOf_20 : decode b_G_cellOf 20 = .ok (.aload_n 0, 1) := by decide +kernel
theorem d_G_cellOf_21 : decode b_G_cellOf 21 = .ok (.getfield 40, 3) := by decide +kernel
theorem d_G_cellOf_24 : decode b_G_cellOf 24 = .ok (.imul, 1) := by decide +kernel
theorem d_G_cellOf_25 : decode b_G_cellOf 25 = .ok (.iadd, 1) := by decide +kernel
theorem d_G_cellOf_26 : decode b_G_cellOf 26 = .ok (.ireturn, 1) := by decide +kernel
theorem d_G_slotAt_0 : decode b_G_slotAt 0 = .ok (.aload_n 0, 1) := by decide +kernel
theorem d_G_slotAt_1 : decode b_G_slotAt 1 = .ok (.getfield 31, 3) := by decide +kernel
theorem d_G_slotAt_4 : decode b_G_slotAt 4 = .ok (.iload_n 2, 1) := by decide +kernel
theorem d_G_slotAt_5 : decode b_G_slotAt 5 = .ok (.bipush 36, 2) := by decide +kernel
theorem d_G_slotAt_7 : decode b_G_slotAt 7 = .ok (.imul, 1) := by decide +kernel
theorem d_G_slotAt_8 : decode b_G_slotAt 8 = .ok (.iload_n 1, 1) := by decide +kernel
theorem d_G_slotAt_9 : decode b_G_slotAt 9 = .ok (.iadd, 1) := by decide +kernel
theorem d_G_slotAt_10 : decode b_G_slotAt 10 = .ok (.iaload, 1) := by decide +kernel
theorem d_G_slotAt_11 : decode b_G_slotAt 11 = .ok (.ireturn, 1) := by decide +kernel
theorem d_G_placeAt_0 : decode b_G_placeAt 0 = .ok (.aload_n 0, 1) := by decide +kernel
theorem d_G_placeAt_1 : decode b_G_placeAt 1 = .ok (.getfield 34, 3) := by decide +kernel
theorem d_G_placeAt_4 : decode b_G_placeAt 4 = .ok (.iload_n 2, 1) := by decide +kernel
theorem d_G_placeAt_5 : decode b_G_placeAt 5 = .ok (.bipush 36, 2) := by decide +kernel
theorem d_G_placeAt_7 : decode b_G_placeAt 7 = .ok (.imul, 1) := by decide +kernel
theorem d_G_placeAt_8 : decode b_G_placeAt 8 = .ok (.iload_n 1, 1) := by decide +kernel
theorem d_G_placeAt_9 : decode b_G_placeAt 9 = .ok (.iadd, 1) := by decide +kernel
theorem d_G_placeAt_10 : decode b_G_placeAt 10 = .ok (.iaload, 1) := by decide +kernel
theorem d_G_placeAt_11 : decode b_G_placeAt 11 = .ok (.ireturn, 1) := by decide +kernel
theorem d_G_isOpen_0 : decode b_G_isOpen 0 = .ok (.aload_n 0, 1) := by decide +kernel
theorem d_G_isOpen_1 : decode b_G_isOpen 1 = .ok (.iload_n 1, 1) := by decide +kernel
theorem d_G_isOpen_2 : decode b_G_isOpen 2 = .ok (.iload_n 2, 1) := by decide +kernel
theorem d_G_isOpen_3 : decode b_G_isOpen 3 = .ok (.invokevirtual 70, 3) := by decide +kernel
theorem d_G_isOpen_6 : decode b_G_isOpen 6 = .ok (.istore_n 3, 1) := by decide +kernel
theorem d_G_isOpen_7 : decode b_G_isOpen 7 = .ok (.iload_n 3, 1) := by decide +kernel
theorem d_G_isOpen_8 : decode b_G_isOpen 8 = .ok (.iconst (-1), 1) := by decide +kernel
theorem d_G_isOpen_9 : decode b_G_isOpen 9 = .ok (.if_icmp .eq 16, 3) := by decide +kernel
theorem d_G_isOpen_12 : decode b_G_isOpen 12 = .ok (.aload_n 0, 1) := by decide +kernel
theorem d_G_isOpen_13 : decode b_G_isOpen 13 = .ok (.getfield 9, 3) := by decide +kernel
theorem d_G_isOpen_16 : decode b_G_isOpen 16 = .ok (.iload_n 3, 1) := by decide +kernel
theorem d_G_isOpen_17 : decode b_G_isOpen 17 = .ok (.baload, 1) := by decide +kernel
theorem d_G_isOpen_18 : decode b_G_isOpen 18 = .ok (.ifCond .ne 7, 3) := by decide +kernel
theorem d_G_isOpen_21 : decode b_G_isOpen 21 = .ok (.iconst 1, 1) := by decide +kernel
theorem d_G_isOpen_22 : decode b_G_isOpen 22 = .ok (.goto 4, 3) := by decide +kernel
theorem d_G_isOpen_25 : decode b_G_isOpen 25 = .ok (.iconst 0, 1) := by decide +kernel
theorem d_G_isOpen_26 : decode b_G_isOpen 26 = .ok (.ireturn, 1) := by decide +kernel
theorem d_G_markCells_0 : decode b_G_markCells 0 = .ok (.iconst 0, 1) := by decide +kernel
theorem d_G_markCells_1 : decode b_G_markCells 1 = .ok (.istore_n 2, 1) := by decide +kernel
theorem d_G_markCells_2 : decode b_G_markCells 2 = .ok (.iload_n 2, 1) := by decide +kernel
theorem d_G_markCells_3 : decode b_G_markCells 3 = .ok (.aload_n 0, 1) := by decide +kernel
theorem d_G_markCells_4 : decode b_G_markCells 4 = .ok (.getfield 22, 3) := by decide +kernel
theorem d_G_markCells_7 : decode b_G_markCells 7 = .ok (.iload_n 1, 1) := by decide +kernel
theorem d_G_markCells_8 : decode b_G_markCells 8 = .ok (.iaload, 1) := by decide +kernel
theorem d_G_markCells_9 : decode b_G_markCells 9 = .ok (.if_icmp .ge 40, 3) := by decide +kernel
theorem d_G_markCells_12 : decode b_G_markCells 12 = .ok (.aload_n 0, 1) := by decide +kernel
theorem d_G_markCells_13 : decode b_G_markCells 13 = .ok (.getfield 25, 3) := by decide +kernel
theorem d_G_markCells_16 : decode b_G_markCells 16 = .ok (.iload_n 1, 1) := by decide +kernel
theorem d_G_markCells_17 : decode b_G_markCells 17 = .ok (.iaload, 1) := by decide +kernel
theorem d_G_markCells_18 : decode b_G_markCells 18 = .ok (.bipush 36, 2) := by decide +kernel
theorem d_G_markCells_20 : decode b_G_markCells 20 = .ok (.imul, 1) := by decide +kernel
theorem d_G_markCells_21 : decode b_G_markCells 21 = .ok (.aload_n 0, 1) := by decide +kernel
theorem d_G_markCells_22 : decode b_G_markCells 22 = .ok (.iload_n 1, 1) := by decide +kernel
theorem d_G_markCells_23 : decode b_G_markCells 23 = .ok (.iload_n 2, 1) := by decide +kernel
theorem d_G_markCells_24 : decode b_G_markCells 24 = .ok (.invokevirtual 78, 3) := by decide +kernel
theorem d_G_markCells_27 : decode b_G_markCells 27 = .ok (.iadd, 1) := by decide +kernel
theorem d_G_markCells_28 : decode b_G_markCells 28 = .ok (.istore_n 3, 1) := by decide +kernel
theorem d_G_markCells_29 : decode b_G_markCells 29 = .ok (.aload_n 0, 1) := by decide +kernel
theorem d_G_markCells_30 : decode b_G_markCells 30 = .ok (.getfield 31, 3) := by decide +kernel
theorem d_G_markCells_33 : decode b_G_markCells 33 = .ok (.iload_n 3, 1) := by decide +kernel
theorem d_G_markCells_34 : decode b_G_markCells 34 = .ok (.iload_n 1, 1) := by decide +kernel
theorem d_G_markCells_35 : decode b_G_markCells 35 = .ok (.iastore, 1) := by decide +kernel
theorem d_G_markCells_36 : decode b_G_markCells 36 = .ok (.aload_n 0, 1) := by decide +kernel
theorem d_G_markCells_37 : decode b_G_markCells 37 = .ok (.getfield 34, 3) := by decide +kernel
theorem d_G_markCells_40 : decode b_G_markCells 40 = .ok (.iload_n 3, 1) := by decide +kernel
theorem d_G_markCells_41 : decode b_G_markCells 41 = .ok (.iload_n 2, 1) := by decide +kernel
theorem d_G_markCells_42 : decode b_G_markCells 42 = .ok (.iastore, 1) := by decide +kernel
theorem d_G_markCells_43 : decode b_G_markCells 43 = .ok (.iinc 2 1, 3) := by decide +kernel
theorem d_G_markCells_46 : decode b_G_markCells 46 = .ok (.goto (-44), 3) := by decide +kernel
theorem d_G_markCells_49 : decode b_G_markCells 49 = .ok (.return_, 1) := by decide +kernel
theorem d_G_addSlotFrom_0 : decode b_G_addSlotFrom 0 = .ok (.iload_n 3, 1) := by decide +kernel
theorem d_G_addSlotFrom_1 : decode b_G_addSlotFrom 1 = .ok (.ifCond .ne 7, 3) := by decide +kernel
theorem d_G_addSlotFrom_4 : decode b_G_addSlotFrom 4 = .ok (.iconst 1, 1) := by decide +kernel
theorem d_G_addSlotFrom_5 : decode b_G_addSlotFrom 5 = .ok (.goto 4, 3) := by decide +kernel
theorem d_G_addSlotFrom_8 : decode b_G_addSlotFrom 8 = .ok (.iconst 0, 1) := by decide +kernel
theorem d_G_addSlotFrom_9 : decode b_G_addSlotFrom 9 = .ok (.istore 4, 2) := by decide +kernel
theorem d_G_addSlotFrom_11 : decode b_G_addSlotFrom 11 = .ok (.iconst 1, 1) := by decide +kernel
theorem d_G_addSlotFrom_12 : decode b_G_addSlotFrom 12 = .ok (.iload 4, 2) := by decide +kernel
theorem d_G_addSlotFrom_14 : decode b_G_addSlotFrom 14 = .ok (.isub, 1) := by decide +kernel
theorem d_G_addSlotFrom_15 : decode b_G_addSlotFrom 15 = .ok (.istore 5, 2) := by decide +kernel
theorem d_G_addSlotFrom_17 : decode b_G_addSlotFrom 17 = .ok (.aload_n 0, 1) := by decide +kernel
theorem d_G_addSlotFrom_18 : decode b_G_addSlotFrom 18 = .ok (.iload_n 1, 1) := by decide +kernel
theorem d_G_addSlotFrom_19 : decode b_G_addSlotFrom 19 = .ok (.iload 4, 2) := by decide +kernel
theorem d_G_addSlotFrom_21 : decode b_G_addSlotFrom 21 = .ok (.isub, 1) := by decide +kernel
theorem d_G_addSlotFrom_22 : decode b_G_addSlotFrom 22 = .ok (.iload_n 2, 1) := by decide +kernel
theorem d_G_addSlotFrom_23 : decode b_G_addSlotFrom 23 = .ok (.iload 5, 2) := by decide +kernel
theorem d_G_addSlotFrom_25 : decode b_G_addSlotFrom 25 = .ok (.isub, 1) := by decide +kernel
theorem d_G_addSlotFrom_26 : decode b_G_addSlotFrom 26 = .ok (.invokevirtual 66, 3) := by decide +kernel
theorem d_G_addSlotFrom_29 : decode b_G_addSlotFrom 29 = .ok (.ifCond .eq 4, 3) := by decide +kernel
theorem d_G_addSlotFrom_32 : decode b_G_addSlotFrom 32 = .ok (.return_, 1) := by decide +kernel
theorem d_G_addSlotFrom_33 : decode b_G_addSlotFrom 33 = .ok (.iconst 0, 1) := by decide +kernel
theorem d_G_addSlotFrom_34 : decode b_G_addSlotFrom 34 = .ok (.istore 6, 2) := by decide +kernel
theorem d_G_addSlotFrom_36 : decode b_G_addSlotFrom 36 = .ok (.iload 6, 2) := by decide +kernel
theorem d_G_addSlotFrom_38 : decode b_G_addSlotFrom 38 = .ok (.bipush 6, 2) := by decide +kernel
theorem d_G_addSlotFrom_40 : decode b_G_addSlotFrom 40 = .ok (.if_icmp .ge 30, 3) := by decide +kernel
theorem d_G_addSlotFrom_43 : decode b_G_addSlotFrom 43 = .ok (.aload_n 0, 1) := by decide +kernel
theorem d_G_addSlotFrom_44 : decode b_G_addSlotFrom 44 = .ok (.iload_n 1, 1) := by decide +kernel
theorem d_G_addSlotFrom_45 : decode b_G_addSlotFrom 45 = .ok (.iload 6, 2) := by decide +kernel
theorem d_G_addSlotFrom_47 : decode b_G_addSlotFrom 47 = .ok (.iload 4, 2) := by decide +kernel
theorem d_G_addSlotFrom_49 : decode b_G_addSlotFrom 49 = .ok (.imul, 1) := by decide +kernel
theorem d_G_addSlotFrom_50 : decode b_G_addSlotFrom 50 = .ok (.iadd, 1) := by decide +kernel
theorem d_G_addSlotFrom_51 : decode b_G_addSlotFrom 51 = .ok (.iload_n 2, 1) := by decide +kernel
theorem d_G_addSlotFrom_52 : decode b_G_addSlotFrom 52 = .ok (.iload 6, 2) := by decide +kernel
theorem d_G_addSlotFrom_54 : decode b_G_addSlotFrom 54 = .ok (.iload 5, 2) := by decide +kernel
theorem d_G_addSlotFrom_56 : decode b_G_addSlotFrom 56 = .ok (.imul, 1) := by decide +kernel
theorem d_G_addSlotFrom_57 : decode b_G_addSlotFrom 57 = .ok (.iadd, 1) := by decide +kernel
theorem d_G_addSlotFrom_58 : decode b_G_addSlotFrom 58 = .ok (.invokevirtual 66, 3) := by decide +kernel
theorem d_G_addSlotFrom_61 : decode b_G_addSlotFrom 61 = .ok (.ifCond .eq 9, 3) := by decide +kernel
theorem d_G_addSlotFrom_64 : decode b_G_addSlotFrom 64 = .ok (.iinc 6 1, 3) := by decide +kernel
theorem d_G_addSlotFrom_67 : decode b_G_addSlotFrom 67 = .ok (.goto (-31), 3) := by decide +kernel
theorem d_G_addSlotFrom_70 : decode b_G_addSlotFrom 70 = .ok (.iload 6, 2) := by decide +kernel
theorem d_G_addSlotFrom_72 : decode b_G_addSlotFrom 72 = .ok (.iconst 2, 1) := by decide +kernel
theorem d_G_addSlotFrom_73 : decode b_G_addSlotFrom 73 = .ok (.if_icmp .lt 66, 3) := by decide +kernel
theorem d_G_addSlotFrom_76 : decode b_G_addSlotFrom 76 = .ok (.aload_n 0, 1) := by decide +kernel
theorem d_G_addSlotFrom_77 : decode b_G_addSlotFrom 77 = .ok (.getfield 53, 3) := by decide +kernel
theorem d_G_addSlotFrom_80 : decode b_G_addSlotFrom 80 = .ok (.bipush 24, 2) := by decide +kernel
theorem d_G_addSlotFrom_82 : decode b_G_addSlotFrom 82 = .ok (.if_icmp .ge 57, 3) := by decide +kernel
theorem d_G_addSlotFrom_85 : decode b_G_addSlotFrom 85 = .ok (.aload_n 0, 1) := by decide +kernel
theorem d_G_addSlotFrom_86 : decode b_G_addSlotFrom 86 = .ok (.getfield 19, 3) := by decide +kernel
theorem d_G_addSlotFrom_89 : decode b_G_addSlotFrom 89 = .ok (.aload_n 0, 1) := by decide +kernel
theorem d_G_addSlotFrom_90 : decode b_G_addSlotFrom 90 = .ok (.getfield 53, 3) := by decide +kernel
theorem d_G_addSlotFrom_93 : decode b_G_addSlotFrom 93 = .ok (.aload_n 0, 1) := by decide +kernel
theorem d_G_addSlotFrom_94 : decode b_G_addSlotFrom 94 = .ok (.iload_n 1, 1) := by decide +kernel
theorem d_G_addSlotFrom_95 : decode b_G_addSlotFrom 95 = .ok (.iload_n 2, 1) := by decide +kernel
theorem d_G_addSlotFrom_96 : decode b_G_addSlotFrom 96 = .ok (.invokevirtual 70, 3) := by decide +kernel
theorem d_G_addSlotFrom_99 : decode b_G_addSlotFrom 99 = .ok (.iastore, 1) := by decide +kernel
theorem d_G_addSlotFrom_100 : decode b_G_addSlotFrom 100 = .ok (.aload_n 0, 1) := by decide +kernel
theorem d_G_addSlotFrom_101 : decode b_G_addSlotFrom 101 = .ok (.getfield 22, 3) := by decide +kernel
theorem d_G_addSlotFrom_104 : decode b_G_addSlotFrom 104 = .ok (.aload_n 0, 1) := by decide +kernel
theorem d_G_addSlotFrom_105 : decode b_G_addSlotFrom 105 = .ok (.getfield 53, 3) := by decide +kernel
theorem d_G_addSlotFrom_108 : decode b_G_addSlotFrom 108 = .ok (.iload 6, 2) := by decide +kernel
theorem d_G_addSlotFrom_110 : decode b_G_addSlotFrom 110 = .ok (.iastore, 1) := by decide +kernel
theorem d_G_addSlotFrom_111 : decode b_G_addSlotFrom 111 = .ok (.aload_n 0, 1) := by decide +kernel
theorem d_G_addSlotFrom_112 : decode b_G_addSlotFrom 112 = .ok (.getfield 25, 3) := by decide +kernel
theorem d_G_addSlotFrom_115 : decode b_G_addSlotFrom 115 = .ok (.aload_n 0, 1) := by decide +kernel
theorem d_G_addSlotFrom_116 : decode b_G_addSlotFrom 116 = .ok (.getfield 53, 3) := by decide +kernel
theorem d_G_addSlotFrom_119 : decode b_G_addSlotFrom 119 = .ok (.iload_n 3, 1) := by decide +kernel
theorem d_G_addSlotFrom_120 : decode b_G_addSlotFrom 120 = .ok (.iastore, 1) := by decide +kernel
theorem d_G_addSlotFrom_121 : decode b_G_addSlotFrom 121 = .ok (.aload_n 0, 1) := by decide +kernel
theorem d_G_addSlotFrom_122 : decode b_G_addSlotFrom 122 = .ok (.aload_n 0, 1) := by decide +kernel
theorem d_G_addSlotFrom_123 : decode b_G_addSlotFrom 123 = .ok (.getfield 53, 3) := by decide +kernel
theorem d_G_addSlotFrom_126 : decode b_G_addSlotFrom 126 = .ok (.invokevirtual 74, 3) := by decide +kernel
theorem d_G_addSlotFrom_129 : decode b_G_addSlotFrom 129 = .ok (.aload_n 0, 1) := by decide +kernel
theorem d_G_addSlotFrom_130 : decode b_G_addSlotFrom 130 = .ok (.dup, 1) := by decide +kernel
theorem d_G_addSlotFrom_131 : decode b_G_addSlotFrom 131 = .ok (.getfield 53, 3) := by decide +kernel
theorem d_G_addSlotFrom_134 : decode b_G_addSlotFrom 134 = .ok (.iconst 1, 1) := by decide +kernel
theorem d_G_addSlotFrom_135 : decode b_G_addSlotFrom 135 = .ok (.iadd, 1) := by decide +kernel
theorem d_G_addSlotFrom_136 : decode b_G_addSlotFrom 136 = .ok (.putfield 53, 3) := by decide +kernel
theorem d_G_addSlotFrom_139 : decode b_G_addSlotFrom 139 = .ok (.return_, 1) := by decide +kernel
theorem d_G_findSlots_0 : decode b_G_findSlots 0 = .ok (.aload_n 0, 1) := by decide +kernel
theorem d_G_findSlots_1 : decode b_G_findSlots 1 = .ok (.iconst 0, 1) := by decide +kernel
theorem d_G_findSlots_2 : decode b_G_findSlots 2 = .ok (.putfield 53, 3) := by decide +kernel
theorem d_G_findSlots_5 : decode b_G_findSlots 5 = .ok (.aload_n 0, 1) := by decide +kernel
theorem d_G_findSlots_6 : decode b_G_findSlots 6 = .ok (.getfield 28, 3) := by decide +kernel
theorem d_G_findSlots_9 : decode b_G_findSlots 9 = .ok (.iconst (-1), 1) := by decide +kernel
theorem d_G_findSlots_10 : decode b_G_findSlots 10 = .ok (.invokestatic 56, 3) := by decide +kernel
theorem d_G_findSlots_13 : decode b_G_findSlots 13 = .ok (.aload_n 0, 1) := by decide +kernel
theorem d_G_findSlots_14 : decode b_G_findSlots 14 = .ok (.getfield 31, 3) := by decide +kernel
theorem d_G_findSlots_17 : decode b_G_findSlots 17 = .ok (.iconst (-1), 1) := by decide +kernel
theorem d_G_findSlots_18 : decode b_G_findSlots 18 = .ok (.invokestatic 56, 3) := by decide +kernel
theorem d_G_findSlots_21 : decode b_G_findSlots 21 = .ok (.iconst 0, 1) := by decide +kernel
theorem d_G_findSlots_22 : decode b_G_findSlots 22 = .ok (.istore_n 1, 1) := by decide +kernel
theorem d_G_findSlots_23 : decode b_G_findSlots 23 = .ok (.iload_n 1, 1) := by decide +kernel
theorem d_G_findSlots_24 : decode b_G_findSlots 24 = .ok (.iconst 1, 1) := by decide +kernel
theorem d_G_findSlots_25 : decode b_G_findSlots 25 = .ok (.if_icmp .gt 48, 3) := by decide +kernel
theorem d_G_findSlots_28 : decode b_G_findSlots 28 = .ok (.iconst 0, 1) := by decide +kernel
theorem d_G_findSlots_29 : decode b_G_findSlots 29 = .ok (.istore_n 2, 1) := by decide +kernel
theorem d_G_findSlots_30 : decode b_G_findSlots 30 = .ok (.iload_n 2, 1) := by decide +kernel
theorem d_G_findSlots_31 : decode b_G_findSlots 31 = .ok (.aload_n 0, 1) := by decide +kernel
theorem d_G_findSlots_32 : decode b_G_findSlots 32 = .ok (.getfield 44, 3) := by decide +kernel
theorem d_G_findSlots_35 : decode b_G_findSlots 35 = .ok (.if_icmp .ge 32, 3) := by decide +kernel
theorem d_G_findSlots_38 : decode b_G_findSlots 38 = .ok (.iconst 0, 1) := by decide +kernel
theorem d_G_findSlots_39 : decode b_G_findSlots 39 = .ok (.istore_n 3, 1) := by decide +kernel
theorem d_G_findSlots_40 : decode b_G_findSlots 40 = .ok (.iload_n 3, 1) := by decide +kernel
theorem d_G_findSlots_41 : decode b_G_findSlots 41 = .ok (.aload_n 0, 1) := by decide +kernel
theorem d_G_findSlots_42 : decode b_G_findSlots 42 = .ok (.getfield 40, 3) := by decide +kernel
theorem d_G_findSlots_45 : decode b_G_findSlots 45 = .ok (.if_icmp .ge 16, 3) := by decide +kernel
theorem d_G_findSlots_48 : decode b_G_findSlots 48 = .ok (.aload_n 0, 1) := by decide +kernel
theorem d_G_findSlots_49 : decode b_G_findSlots 49 = .ok (.iload_n 3, 1) := by decide +kernel
theorem d_G_findSlots_50 : decode b_G_findSlots 50 = .ok (.iload_n 2, 1) := by decide +kernel
theorem d_G_findSlots_51 : decode b_G_findSlots 51 = .ok (.iload_n 1, 1) := by decide +kernel
theorem d_G_findSlots_52 : decode b_G_findSlots 52 = .ok (.invokevirtual 62, 3) := by decide +kernel
theorem d_G_findSlots_55 : decode b_G_findSlots 55 = .ok (.iinc 3 1, 3) := by decide +kernel
theorem d_G_findSlots_58 : decode b_G_findSlots 58 = .ok (.goto (-18), 3) := by decide +kernel
theorem d_G_findSlots_61 : decode b_G_findSlots 61 = .ok (.iinc 2 1, 3) := by decide +kernel
theorem d_G_findSlots_64 : decode b_G_findSlots 64 = .ok (.goto (-34), 3) := by decide +kernel
theorem d_G_findSlots_67 : decode b_G_findSlots 67 = .ok (.iinc 1 1, 3) := by decide +kernel
theorem d_G_findSlots_70 : decode b_G_findSlots 70 = .ok (.goto (-47), 3) := by decide +kernel
theorem d_G_findSlots_73 : decode b_G_findSlots 73 = .ok (.return_, 1) := by decide +kernel
theorem d_G_paint_0 : decode b_G_paint 0 = .ok (.aload_n 0, 1) := by decide +kernel
theorem d_G_paint_1 : decode b_G_paint 1 = .ok (.getfield 9, 3) := by decide +kernel
theorem d_G_paint_4 : decode b_G_paint 4 = .ok (.iload_n 1, 1) := by decide +kernel
theorem d_G_paint_5 : decode b_G_paint 5 = .ok (.iload_n 2, 1) := by decide +kernel
theorem d_G_paint_6 : decode b_G_paint 6 = .ok (.bastore, 1) := by decide +kernel
theorem d_G_paint_7 : decode b_G_paint 7 = .ok (.aload_n 0, 1) := by decide +kernel
theorem d_G_paint_8 : decode b_G_paint 8 = .ok (.getfield 15, 3) := by decide +kernel
theorem d_G_paint_11 : decode b_G_paint 11 = .ok (.iconst 0, 1) := by decide +kernel
theorem d_G_paint_12 : decode b_G_paint 12 = .ok (.invokestatic 56, 3) := by decide +kernel
theorem d_G_paint_15 : decode b_G_paint 15 = .ok (.aload_n 0, 1) := by decide +kernel
theorem d_G_paint_16 : decode b_G_paint 16 = .ok (.invokevirtual 50, 3) := by decide +kernel
theorem d_G_paint_19 : decode b_G_paint 19 = .ok (.return_, 1) := by decide +kernel
theorem d_G_imageIsOpen_0 : decode b_G_imageIsOpen 0 = .ok (.iload_n 1, 1) := by decide +kernel
theorem d_G_imageIsOpen_1 : decode b_G_imageIsOpen 1 = .ok (.tableswitch 76 0 2 #[27, 48, 62], 27) := by decide +kernel
theorem d_G_imageIsOpen_28 : decode b_G_imageIsOpen 28 = .ok (.aload_n 0, 1) := by decide +kernel
theorem d_G_imageIsOpen_29 : decode b_G_imageIsOpen 29 = .ok (.aload_n 0, 1) := by decide +kernel
theorem d_G_imageIsOpen_30 : decode b_G_imageIsOpen 30 = .ok (.getfield 40, 3) := by decide +kernel
theorem d_G_imageIsOpen_33 : decode b_G_imageIsOpen 33 = .ok (.iconst 1, 1) := by decide +kernel
theorem d_G_imageIsOpen_34 : decode b_G_imageIsOpen 34 = .ok (.isub, 1) := by decide +kernel
theorem d_G_imageIsOpen_35 : decode b_G_imageIsOpen 35 = .ok (.iload_n 2, 1) := by decide +kernel
theorem d_G_imageIsOpen_36 : decode b_G_imageIsOpen 36 = .ok (.isub, 1) := by decide +kernel
theorem d_G_imageIsOpen_37 : decode b_G_imageIsOpen 37 = .ok (.aload_n 0, 1) := by decide +kernel
theorem d_G_imageIsOpen_38 : decode b_G_imageIsOpen 38 = .ok (.getfield 44, 3) := by decide +kernel
theorem d_G_imageIsOpen_41 : decode b_G_imageIsOpen 41 = .ok (.iconst 1, 1) := by decide +kernel
theorem d_G_imageIsOpen_42 : decode b_G_imageIsOpen 42 = .ok (.isub, 1) := by decide +kernel
theorem d_G_imageIsOpen_43 : decode b_G_imageIsOpen 43 = .ok (.iload_n 3, 1) := by decide +kernel
theorem d_G_imageIsOpen_44 : decode b_G_imageIsOpen 44 = .ok (.isub, 1) := by decide +kernel
theorem d_G_imageIsOpen_45 : decode b_G_imageIsOpen 45 = .ok (.invokevirtual 66, 3) := by decide +kernel
theorem d_G_imageIsOpen_48 : decode b_G_imageIsOpen 48 = .ok (.ireturn, 1) := by decide +kernel
theorem d_G_imageIsOpen_49 : decode b_G_imageIsOpen 49 = .ok (.aload_n 0, 1) := by decide +kernel
theorem d_G_imageIsOpen_50 : decode b_G_imageIsOpen 50 = .ok (.aload_n 0, 1) := by decide +kernel
theorem d_G_imageIsOpen_51 : decode b_G_imageIsOpen 51 = .ok (.getfield 40, 3) := by decide +kernel
theorem d_G_imageIsOpen_54 : decode b_G_imageIsOpen 54 = .ok (.iconst 1, 1) := by decide +kernel
theorem d_G_imageIsOpen_55 : decode b_G_imageIsOpen 55 = .ok (.isub, 1) := by decide +kernel
theorem d_G_imageIsOpen_56 : decode b_G_imageIsOpen 56 = .ok (.iload_n 2, 1) := by decide +kernel
theorem d_G_imageIsOpen_57 : decode b_G_imageIsOpen 57 = .ok (.isub, 1) := by decide +kernel
theorem d_G_imageIsOpen_58 : decode b_G_imageIsOpen 58 = .ok (.iload_n 3, 1) := by decide +kernel
theorem d_G_imageIsOpen_59 : decode b_G_imageIsOpen 59 = .ok (.invokevirtual 66, 3) := by decide +kernel
theorem d_G_imageIsOpen_62 : decode b_G_imageIsOpen 62 = .ok (.ireturn, 1) := by decide +kernel
theorem d_G_imageIsOpen_63 : decode b_G_imageIsOpen 63 = .ok (.aload_n 0, 1) := by decide +kernel
theorem d_G_imageIsOpen_64 : decode b_G_imageIsOpen 64 = .ok (.iload_n 2, 1) := by decide +kernel
theorem d_G_imageIsOpen_65 : decode b_G_imageIsOpen 65 = .ok (.aload_n 0, 1) := by decide +kernel
theorem d_G_imageIsOpen_66 : decode b_G_imageIsOpen 66 = .ok (.getfield 44, 3) := by decide +kernel
theorem d_G_imageIsOpen_69 : decode b_G_imageIsOpen 69 = .ok (.iconst 1, 1) := by decide +kernel
theorem d_G_imageIsOpen_70 : decode b_G_imageIsOpen 70 = .ok (.isub, 1) := by decide +kernel
theorem d_G_imageIsOpen_71 : decode b_G_imageIsOpen 71 = .ok (.iload_n 3, 1) := by decide +kernel
theorem d_G_imageIsOpen_72 : decode b_G_imageIsOpen 72 = .ok (.isub, 1) := by decide +kernel
theorem d_G_imageIsOpen_73 : decode b_G_imageIsOpen 73 = .ok (.invokevirtual 66, 3) := by decide +kernel
theorem d_G_imageIsOpen_76 : decode b_G_imageIsOpen 76 = .ok (.ireturn, 1) := by decide +kernel
theorem d_G_imageIsOpen_77 : decode b_G_imageIsOpen 77 = .ok (.aload_n 0, 1) := by decide +kernel
theorem d_G_imageIsOpen_78 : decode b_G_imageIsOpen 78 = .ok (.iload_n 3, 1) := by decide +kernel
theorem d_G_imageIsOpen_79 : decode b_G_imageIsOpen 79 = .ok (.iload_n 2, 1) := by decide +kernel
theorem d_G_imageIsOpen_80 : decode b_G_imageIsOpen 80 = .ok (.invokevirtual 66, 3) := by decide +kernel
theorem d_G_imageIsOpen_83 : decode b_G_imageIsOpen 83 = .ok (.ireturn, 1) := by decide +kernel
theorem d_G_looksTheSame_0 : decode b_G_looksTheSame 0 = .ok (.iconst 0, 1) := by decide +kernel
theorem d_G_looksTheSame_1 : decode b_G_looksTheSame 1 = .ok (.istore_n 2, 1) := by decide +kernel
theorem d_G_looksTheSame_2 : decode b_G_looksTheSame 2 = .ok (.iload_n 2, 1) := by decide +kernel
theorem d_G_looksTheSame_3 : decode b_G_looksTheSame 3 = .ok (.aload_n 0, 1) := by decide +kernel
theorem d_G_looksTheSame_4 : decode b_G_looksTheSame 4 = .ok (.getfield 44, 3) := by decide +kernel
theorem d_G_looksTheSame_7 : decode b_G_looksTheSame 7 = .ok (.if_icmp .ge 43, 3) := by decide +kernel
theorem d_G_looksTheSame_10 : decode b_G_looksTheSame 10 = .ok (.iconst 0, 1) := by decide +kernel
theorem d_G_looksTheSame_11 : decode b_G_looksTheSame 11 = .ok (.istore_n 3, 1) := by decide +kernel
theorem d_G_looksTheSame_12 : decode b_G_looksTheSame 12 = .ok (.iload_n 3, 1) := by decide +kernel
theorem d_G_looksTheSame_13 : decode b_G_looksTheSame 13 = .ok (.aload_n 0, 1) := by decide +kernel
theorem d_G_looksTheSame_14 : decode b_G_looksTheSame 14 = .ok (.getfield 40, 3) := by decide +kernel
theorem d_G_looksTheSame_17 : decode b_G_looksTheSame 17 = .ok (.if_icmp .ge 27, 3) := by decide +kernel
theorem d_G_looksTheSame_20 : decode b_G_looksTheSame 20 = .ok (.aload_n 0, 1) := by decide +kernel
theorem d_G_looksTheSame_21 : decode b_G_looksTheSame 21 = .ok (.iload_n 3, 1) := by decide +kernel
theorem d_G_looksTheSame_22 : decode b_G_looksTheSame 22 = .ok (.iload_n 2, 1) := by decide +kernel
theorem d_G_looksTheSame_23 : decode b_G_looksTheSame 23 = .ok (.invokevirtual 66, 3) := by decide +kernel
theorem d_G_looksTheSame_26 : decode b_G_looksTheSame 26 = .ok (.aload_n 0, 1) := by decide +kernel
theorem d_G_looksTheSame_27 : decode b_G_looksTheSame 27 = .ok (.iload_n 1, 1) := by decide +kernel
theorem d_G_looksTheSame_28 : decode b_G_looksTheSame 28 = .ok (.iload_n 3, 1) := by decide +kernel
theorem d_G_looksTheSame_29 : decode b_G_looksTheSame 29 = .ok (.iload_n 2, 1) := by decide +kernel
theorem d_G_looksTheSame_30 : decode b_G_looksTheSame 30 = .ok (.invokevirtual 81, 3) := by decide +kernel
theorem d_G_looksTheSame_33 : decode b_G_looksTheSame 33 = .ok (.if_icmp .eq 5, 3) := by decide +kernel
theorem d_G_looksTheSame_36 : decode b_G_looksTheSame 36 = .ok (.iconst 0, 1) := by decide +kernel
theorem d_G_looksTheSame_37 : decode b_G_looksTheSame 37 = .ok (.ireturn, 1) := by decide +kernel
theorem d_G_looksTheSame_38 : decode b_G_looksTheSame 38 = .ok (.iinc 3 1, 3) := by decide +kernel
theorem d_G_looksTheSame_41 : decode b_G_looksTheSame 41 = .ok (.goto (-29), 3) := by decide +kernel
theorem d_G_looksTheSame_44 : decode b_G_looksTheSame 44 = .ok (.iinc 2 1, 3) := by decide +kernel
theorem d_G_looksTheSame_47 : decode b_G_looksTheSame 47 = .ok (.goto (-45), 3) := by decide +kernel
theorem d_G_looksTheSame_50 : decode b_G_looksTheSame 50 = .ok (.iconst 1, 1) := by decide +kernel
theorem d_G_looksTheSame_51 : decode b_G_looksTheSame 51 = .ok (.ireturn, 1) := by decide +kernel
theorem d_G_join_0 : decode b_G_join 0 = .ok (.aload_n 0, 1) := by decide +kernel
theorem d_G_join_1 : decode b_G_join 1 = .ok (.iload_n 1, 1) := by decide +kernel
theorem d_G_join_2 : decode b_G_join 2 = .ok (.iload_n 2, 1) := by decide +kernel
theorem d_G_join_3 : decode b_G_join 3 = .ok (.invokevirtual 66, 3) := by decide +kernel
theorem d_G_join_6 : decode b_G_join 6 = .ok (.ifCond .eq 13, 3) := by decide +kernel
theorem d_G_join_9 : decode b_G_join 9 = .ok (.aload_n 0, 1) := by decide +kernel
theorem d_G_join_10 : decode b_G_join 10 = .ok (.iload_n 3, 1) := by decide +kernel
theorem d_G_join_11 : decode b_G_join 11 = .ok (.iload 4, 2) := by decide +kernel
theorem d_G_join_13 : decode b_G_join 13 = .ok (.invokevirtual 66, 3) := by decide +kernel
theorem d_G_join_16 : decode b_G_join 16 = .ok (.ifCond .ne 5, 3) := by decide +kernel
theorem d_G_join_19 : decode b_G_join 19 = .ok (.iconst 0, 1) := by decide +kernel
theorem d_G_join_20 : decode b_G_join 20 = .ok (.ireturn, 1) := by decide +kernel
theorem d_G_join_21 : decode b_G_join 21 = .ok (.aload_n 0, 1) := by decide +kernel
theorem d_G_join_22 : decode b_G_join 22 = .ok (.getfield 37, 3) := by decide +kernel
theorem d_G_join_25 : decode b_G_join 25 = .ok (.aload_n 0, 1) := by decide +kernel
theorem d_G_join_26 : decode b_G_join 26 = .ok (.iload_n 1, 1) := by decide +kernel
theorem d_G_join_27 : decode b_G_join 27 = .ok (.iload_n 2, 1) := by decide +kernel
theorem d_G_join_28 : decode b_G_join 28 = .ok (.invokevirtual 70, 3) := by decide +kernel
theorem d_G_join_31 : decode b_G_join 31 = .ok (.iaload, 1) := by decide +kernel
theorem d_G_join_32 : decode b_G_join 32 = .ok (.istore 5, 2) := by decide +kernel
theorem d_G_join_34 : decode b_G_join 34 = .ok (.aload_n 0, 1) := by decide +kernel
theorem d_G_join_35 : decode b_G_join 35 = .ok (.getfield 37, 3) := by decide +kernel
theorem d_G_join_38 : decode b_G_join 38 = .ok (.aload_n 0, 1) := by decide +kernel
theorem d_G_join_39 : decode b_G_join 39 = .ok (.iload_n 3, 1) := by decide +kernel
theorem d_G_join_40 : decode b_G_join 40 = .ok (.iload 4, 2) := by decide +kernel
theorem d_G_join_42 : decode b_G_join 42 = .ok (.invokevirtual 70, 3) := by decide +kernel
theorem d_G_join_45 : decode b_G_join 45 = .ok (.iaload, 1) := by decide +kernel
theorem d_G_join_46 : decode b_G_join 46 = .ok (.istore 6, 2) := by decide +kernel
theorem d_G_join_48 : decode b_G_join 48 = .ok (.iload 5, 2) := by decide +kernel
theorem d_G_join_50 : decode b_G_join 50 = .ok (.iload 6, 2) := by decide +kernel
theorem d_G_join_52 : decode b_G_join 52 = .ok (.if_icmp .ne 5, 3) := by decide +kernel
theorem d_G_join_55 : decode b_G_join 55 = .ok (.iconst 0, 1) := by decide +kernel
theorem d_G_join_56 : decode b_G_join 56 = .ok (.ireturn, 1) := by decide +kernel
theorem d_G_join_57 : decode b_G_join 57 = .ok (.iconst 0, 1) := by decide +kernel
theorem d_G_join_58 : decode b_G_join 58 = .ok (.istore 7, 2) := by decide +kernel
theorem d_G_join_60 : decode b_G_join 60 = .ok (.iload 7, 2) := by decide +kernel
theorem d_G_join_62 : decode b_G_join 62 = .ok (.aload_n 0, 1) := by decide +kernel
theorem d_G_join_63 : decode b_G_join 63 = .ok (.getfield 47, 3) := by decide +kernel
theorem d_G_join_66 : decode b_G_join 66 = .ok (.if_icmp .ge 30, 3) := by decide +kernel
theorem d_G_join_69 : decode b_G_join 69 = .ok (.aload_n 0, 1) := by decide +kernel
theorem d_G_join_70 : decode b_G_join 70 = .ok (.getfield 37, 3) := by decide +kernel
theorem d_G_join_73 : decode b_G_join 73 = .ok (.iload 7, 2) := by decide +kernel
theorem d_G_join_75 : decode b_G_join 75 = .ok (.iaload, 1) := by decide +kernel
theorem d_G_join_76 : decode b_G_join 76 = .ok (.iload 6, 2) := by decide +kernel
theorem d_G_join_78 : decode b_G_join 78 = .ok (.if_icmp .ne 12, 3) := by decide +kernel
theorem d_G_join_81 : decode b_G_join 81 = .ok (.aload_n 0, 1) := by decide +kernel
theorem d_G_join_82 : decode b_G_join 82 = .ok (.getfield 37, 3) := by decide +kernel
theorem d_G_join_85 : decode b_G_join 85 = .ok (.iload 7, 2) := by decide +kernel
theorem d_G_join_87 : decode b_G_join 87 = .ok (.iload 5, 2) := by decide +kernel
theorem d_G_join_89 : decode b_G_join 89 = .ok (.iastore, 1) := by decide +kernel
theorem d_G_join_90 : decode b_G_join 90 = .ok (.iinc 7 1, 3) := by decide +kernel
theorem d_G_join_93 : decode b_G_join 93 = .ok (.goto (-33), 3) := by decide +kernel
