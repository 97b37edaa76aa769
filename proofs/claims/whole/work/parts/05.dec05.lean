theorem d_M_slots_6 : decode b_M_slots 6 = .ok (.getfield 82, 3) := by decide +kernel
theorem d_M_slots_9 : decode b_M_slots 9 = .ok (.ireturn, 1) := by decide +kernel
theorem d_M_spell_0 : decode b_M_spell 0 = .ok (.iconst 0, 1) := by decide +kernel
theorem d_M_spell_1 : decode b_M_spell 1 = .ok (.istore_n 1, 1) := by decide +kernel
theorem d_M_spell_2 : decode b_M_spell 2 = .ok (.iload_n 1, 1) := by decide +kernel
theorem d_M_spell_3 : decode b_M_spell 3 = .ok (.bipush 36, 2) := by decide +kernel
theorem d_M_spell_5 : decode b_M_spell 5 = .ok (.if_icmp .ge 21, 3) := by decide +kernel
theorem d_M_spell_8 : decode b_M_spell 8 = .ok (.aload_n 0, 1) := by decide +kernel
theorem d_M_spell_9 : decode b_M_spell 9 = .ok (.getfield 47, 3) := by decide +kernel
theorem d_M_spell_12 : decode b_M_spell 12 = .ok (.iload_n 1, 1) := by decide +kernel
theorem d_M_spell_13 : decode b_M_spell 13 = .ok (.aload_n 0, 1) := by decide +kernel
theorem d_M_spell_14 : decode b_M_spell 14 = .ok (.getfield 13, 3) := by decide +kernel
theorem d_M_spell_17 : decode b_M_spell 17 = .ok (.iload_n 1, 1) := by decide +kernel
theorem d_M_spell_18 : decode b_M_spell 18 = .ok (.iaload, 1) := by decide +kernel
theorem d_M_spell_19 : decode b_M_spell 19 = .ok (.iastore, 1) := by decide +kernel
theorem d_M_spell_20 : decode b_M_spell 20 = .ok (.iinc 1 1, 3) := by decide +kernel
theorem d_M_spell_23 : decode b_M_spell 23 = .ok (.goto (-21), 3) := by decide +kernel
theorem d_M_spell_26 : decode b_M_spell 26 = .ok (.iconst 0, 1) := by decide +kernel
theorem d_M_spell_27 : decode b_M_spell 27 = .ok (.istore_n 1, 1) := by decide +kernel
theorem d_M_spell_28 : decode b_M_spell 28 = .ok (.iload_n 1, 1) := by decide +kernel
theorem d_M_spell_29 : decode b_M_spell 29 = .ok (.aload_n 0, 1) := by decide +kernel
theorem d_M_spell_30 : decode b_M_spell 30 = .ok (.getfield 82, 3) := by decide +kernel
theorem d_M_spell_33 : decode b_M_spell 33 = .ok (.if_icmp .ge 67, 3) := by decide +kernel
theorem d_M_spell_36 : decode b_M_spell 36 = .ok (.aload_n 0, 1) := by decide +kernel
theorem d_M_spell_37 : decode b_M_spell 37 = .ok (.getfield 41, 3) := by decide +kernel
theorem d_M_spell_40 : decode b_M_spell 40 = .ok (.iload_n 1, 1) := by decide +kernel
theorem d_M_spell_41 : decode b_M_spell 41 = .ok (.iaload, 1) := by decide +kernel
theorem d_M_spell_42 : decode b_M_spell 42 = .ok (.iconst (-1), 1) := by decide +kernel
theorem d_M_spell_43 : decode b_M_spell 43 = .ok (.if_icmp .ne 6, 3) := by decide +kernel
theorem d_M_spell_46 : decode b_M_spell 46 = .ok (.goto 48, 3) := by decide +kernel
theorem d_M_spell_49 : decode b_M_spell 49 = .ok (.iconst 0, 1) := by decide +kernel
theorem d_M_spell_50 : decode b_M_spell 50 = .ok (.istore_n 2, 1) := by decide +kernel
theorem d_M_spell_51 : decode b_M_spell 51 = .ok (.iload_n 2, 1) := by decide +kernel
theorem d_M_spell_52 : decode b_M_spell 52 = .ok (.aload_n 0, 1) := by decide +kernel
theorem d_M_spell_53 : decode b_M_spell 53 = .ok (.getfield 32, 3) := by decide +kernel
theorem d_M_spell_56 : decode b_M_spell 56 = .ok (.iload_n 1, 1) := by decide +kernel
theorem d_M_spell_57 : decode b_M_spell 57 = .ok (.iaload, 1) := by decide +kernel
theorem d_M_spell_58 : decode b_M_spell 58 = .ok (.if_icmp .ge 36, 3) := by decide +kernel
theorem d_M_spell_61 : decode b_M_spell 61 = .ok (.aload_n 0, 1) := by decide +kernel
theorem d_M_spell_62 : decode b_M_spell 62 = .ok (.getfield 47, 3) := by decide +kernel
theorem d_M_spell_65 : decode b_M_spell 65 = .ok (.aload_n 0, 1) := by decide +kernel
theorem d_M_spell_66 : decode b_M_spell 66 = .ok (.iload_n 1, 1) := by decide +kernel
theorem d_M_spell_67 : decode b_M_spell 67 = .ok (.iload_n 2, 1) := by decide +kernel
theorem d_M_spell_68 : decode b_M_spell 68 = .ok (.invokevirtual 115, 3) := by decide +kernel
theorem d_M_spell_71 : decode b_M_spell 71 = .ok (.aload_n 0, 1) := by decide +kernel
theorem d_M_spell_72 : decode b_M_spell 72 = .ok (.getfield 23, 3) := by decide +kernel
theorem d_M_spell_75 : decode b_M_spell 75 = .ok (.bipush 6, 2) := by decide +kernel
theorem d_M_spell_77 : decode b_M_spell 77 = .ok (.aload_n 0, 1) := by decide +kernel
theorem d_M_spell_78 : decode b_M_spell 78 = .ok (.getfield 41, 3) := by decide +kernel
theorem d_M_spell_81 : decode b_M_spell 81 = .ok (.iload_n 1, 1) := by decide +kernel
theorem d_M_spell_82 : decode b_M_spell 82 = .ok (.iaload, 1) := by decide +kernel
theorem d_M_spell_83 : decode b_M_spell 83 = .ok (.imul, 1) := by decide +kernel
theorem d_M_spell_84 : decode b_M_spell 84 = .ok (.iload_n 2, 1) := by decide +kernel
theorem d_M_spell_85 : decode b_M_spell 85 = .ok (.iadd, 1) := by decide +kernel
theorem d_M_spell_86 : decode b_M_spell 86 = .ok (.iaload, 1) := by decide +kernel
theorem d_M_spell_87 : decode b_M_spell 87 = .ok (.iastore, 1) := by decide +kernel
theorem d_M_spell_88 : decode b_M_spell 88 = .ok (.iinc 2 1, 3) := by decide +kernel
theorem d_M_spell_91 : decode b_M_spell 91 = .ok (.goto (-40), 3) := by decide +kernel
theorem d_M_spell_94 : decode b_M_spell 94 = .ok (.iinc 1 1, 3) := by decide +kernel
theorem d_M_spell_97 : decode b_M_spell 97 = .ok (.goto (-69), 3) := by decide +kernel
theorem d_M_spell_100 : decode b_M_spell 100 = .ok (.return_, 1) := by decide +kernel
theorem d_M_isUsed_0 : decode b_M_isUsed 0 = .ok (.iconst 0, 1) := by decide +kernel
theorem d_M_isUsed_1 : decode b_M_isUsed 1 = .ok (.istore_n 2, 1) := by decide +kernel
theorem d_M_isUsed_2 : decode b_M_isUsed 2 = .ok (.iload_n 2, 1) := by decide +kernel
theorem d_M_isUsed_3 : decode b_M_isUsed 3 = .ok (.aload_n 0, 1) := by decide +kernel
theorem d_M_isUsed_4 : decode b_M_isUsed 4 = .ok (.getfield 82, 3) := by decide +kernel
theorem d_M_isUsed_7 : decode b_M_isUsed 7 = .ok (.if_icmp .ge 21, 3) := by decide +kernel
theorem d_M_isUsed_10 : decode b_M_isUsed 10 = .ok (.aload_n 0, 1) := by decide +kernel
theorem d_M_isUsed_11 : decode b_M_isUsed 11 = .ok (.getfield 41, 3) := by decide +kernel
theorem d_M_isUsed_14 : decode b_M_isUsed 14 = .ok (.iload_n 2, 1) := by decide +kernel
theorem d_M_isUsed_15 : decode b_M_isUsed 15 = .ok (.iaload, 1) := by decide +kernel
theorem d_M_isUsed_16 : decode b_M_isUsed 16 = .ok (.iload_n 1, 1) := by decide +kernel
theorem d_M_isUsed_17 : decode b_M_isUsed 17 = .ok (.if_icmp .ne 5, 3) := by decide +kernel
theorem d_M_isUsed_20 : decode b_M_isUsed 20 = .ok (.iconst 1, 1) := by decide +kernel
theorem d_M_isUsed_21 : decode b_M_isUsed 21 = .ok (.ireturn, 1) := by decide +kernel
theorem d_M_isUsed_22 : decode b_M_isUsed 22 = .ok (.iinc 2 1, 3) := by decide +kernel
theorem d_M_isUsed_25 : decode b_M_isUsed 25 = .ok (.goto (-23), 3) := by decide +kernel
theorem d_M_isUsed_28 : decode b_M_isUsed 28 = .ok (.iconst 0, 1) := by decide +kernel
theorem d_M_isUsed_29 : decode b_M_isUsed 29 = .ok (.ireturn, 1) := by decide +kernel
theorem d_M_mayHave_0 : decode b_M_mayHave 0 = .ok (.aload_n 0, 1) := by decide +kernel
theorem d_M_mayHave_1 : decode b_M_mayHave 1 = .ok (.getfield 20, 3) := by decide +kernel
theorem d_M_mayHave_4 : decode b_M_mayHave 4 = .ok (.iload_n 2, 1) := by decide +kernel
theorem d_M_mayHave_5 : decode b_M_mayHave 5 = .ok (.iaload, 1) := by decide +kernel
theorem d_M_mayHave_6 : decode b_M_mayHave 6 = .ok (.aload_n 0, 1) := by decide +kernel
theorem d_M_mayHave_7 : decode b_M_mayHave 7 = .ok (.getfield 32, 3) := by decide +kernel
theorem d_M_mayHave_10 : decode b_M_mayHave 10 = .ok (.iload_n 1, 1) := by decide +kernel
theorem d_M_mayHave_11 : decode b_M_mayHave 11 = .ok (.iaload, 1) := by decide +kernel
theorem d_M_mayHave_12 : decode b_M_mayHave 12 = .ok (.if_icmp .ne 31, 3) := by decide +kernel
theorem d_M_mayHave_15 : decode b_M_mayHave 15 = .ok (.aload_n 0, 1) := by decide +kernel
theorem d_M_mayHave_16 : decode b_M_mayHave 16 = .ok (.getfield 38, 3) := by decide +kernel
theorem d_M_mayHave_19 : decode b_M_mayHave 19 = .ok (.iload_n 1, 1) := by decide +kernel
theorem d_M_mayHave_20 : decode b_M_mayHave 20 = .ok (.iaload, 1) := by decide +kernel
theorem d_M_mayHave_21 : decode b_M_mayHave 21 = .ok (.iconst (-1), 1) := by decide +kernel
theorem d_M_mayHave_22 : decode b_M_mayHave 22 = .ok (.if_icmp .eq 13, 3) := by decide +kernel
theorem d_M_mayHave_25 : decode b_M_mayHave 25 = .ok (.aload_n 0, 1) := by decide +kernel
theorem d_M_mayHave_26 : decode b_M_mayHave 26 = .ok (.getfield 38, 3) := by decide +kernel
theorem d_M_mayHave_29 : decode b_M_mayHave 29 = .ok (.iload_n 1, 1) := by decide +kernel
theorem d_M_mayHave_30 : decode b_M_mayHave 30 = .ok (.iaload, 1) := by decide +kernel
theorem d_M_mayHave_31 : decode b_M_mayHave 31 = .ok (.iload_n 2, 1) := by decide +kernel
theorem d_M_mayHave_32 : decode b_M_mayHave 32 = .ok (.if_icmp .ne 11, 3) := by decide +kernel
theorem d_M_mayHave_35 : decode b_M_mayHave 35 = .ok (.aload_n 0, 1) := by decide +kernel
theorem d_M_mayHave_36 : decode b_M_mayHave 36 = .ok (.iload_n 2, 1) := by decide +kernel
theorem d_M_mayHave_37 : decode b_M_mayHave 37 = .ok (.invokevirtual 119, 3) := by decide +kernel
theorem d_M_mayHave_40 : decode b_M_mayHave 40 = .ok (.ifCond .eq 5, 3) := by decide +kernel
theorem d_M_mayHave_43 : decode b_M_mayHave 43 = .ok (.iconst 0, 1) := by decide +kernel
theorem d_M_mayHave_44 : decode b_M_mayHave 44 = .ok (.ireturn, 1) := by decide +kernel
theorem d_M_mayHave_45 : decode b_M_mayHave 45 = .ok (.iconst 0, 1) := by decide +kernel
theorem d_M_mayHave_46 : decode b_M_mayHave 46 = .ok (.istore_n 3, 1) := by decide +kernel
theorem d_M_mayHave_47 : decode b_M_mayHave 47 = .ok (.iload_n 3, 1) := by decide +kernel
theorem d_M_mayHave_48 : decode b_M_mayHave 48 = .ok (.aload_n 0, 1) := by decide +kernel
theorem d_M_mayHave_49 : decode b_M_mayHave 49 = .ok (.getfield 32, 3) := by decide +kernel
theorem d_M_mayHave_52 : decode b_M_mayHave 52 = .ok (.iload_n 1, 1) := by decide +kernel
theorem d_M_mayHave_53 : decode b_M_mayHave 53 = .ok (.iaload, 1) := by decide +kernel
theorem d_M_mayHave_54 : decode b_M_mayHave 54 = .ok (.if_icmp .ge 45, 3) := by decide +kernel
theorem d_M_mayHave_57 : decode b_M_mayHave 57 = .ok (.aload_n 0, 1) := by decide +kernel
theorem d_M_mayHave_58 : decode b_M_mayHave 58 = .ok (.getfield 47, 3) := by decide +kernel
theorem d_M_mayHave_61 : decode b_M_mayHave 61 = .ok (.aload_n 0, 1) := by decide +kernel
theorem d_M_mayHave_62 : decode b_M_mayHave 62 = .ok (.iload_n 1, 1) := by decide +kernel
theorem d_M_mayHave_63 : decode b_M_mayHave 63 = .ok (.iload_n 3, 1) := by decide +kernel
theorem d_M_mayHave_64 : decode b_M_mayHave 64 = .ok (.invokevirtual 115, 3) := by decide +kernel
theorem d_M_mayHave_67 : decode b_M_mayHave 67 = .ok (.iaload, 1) := by decide +kernel
theorem d_M_mayHave_68 : decode b_M_mayHave 68 = .ok (.istore 4, 2) := by decide +kernel
theorem d_M_mayHave_70 : decode b_M_mayHave 70 = .ok (.iload 4, 2) := by decide +kernel
theorem d_M_mayHave_72 : decode b_M_mayHave 72 = .ok (.ifCond .eq 21, 3) := by decide +kernel
theorem d_M_mayHave_75 : decode b_M_mayHave 75 = .ok (.iload 4, 2) := by decide +kernel
theorem d_M_mayHave_77 : decode b_M_mayHave 77 = .ok (.aload_n 0, 1) := by decide +kernel
theorem d_M_mayHave_78 : decode b_M_mayHave 78 = .ok (.getfield 23, 3) := by decide +kernel
theorem d_M_mayHave_81 : decode b_M_mayHave 81 = .ok (.bipush 6, 2) := by decide +kernel
theorem d_M_mayHave_83 : decode b_M_mayHave 83 = .ok (.iload_n 2, 1) := by decide +kernel
theorem d_M_mayHave_84 : decode b_M_mayHave 84 = .ok (.imul, 1) := by decide +kernel
theorem d_M_mayHave_85 : decode b_M_mayHave 85 = .ok (.iload_n 3, 1) := by decide +kernel
theorem d_M_mayHave_86 : decode b_M_mayHave 86 = .ok (.iadd, 1) := by decide +kernel
theorem d_M_mayHave_87 : decode b_M_mayHave 87 = .ok (.iaload, 1) := by decide +kernel
theorem d_M_mayHave_88 : decode b_M_mayHave 88 = .ok (.if_icmp .eq 5, 3) := by decide +kernel
theorem d_M_mayHave_91 : decode b_M_mayHave 91 = .ok (.iconst 0, 1) := by decide +kernel
theorem d_M_mayHave_92 : decode b_M_mayHave 92 = .ok (.ireturn, 1) := by decide +kernel
theorem d_M_mayHave_93 : decode b_M_mayHave 93 = .ok (.iinc 3 1, 3) := by decide +kernel
theorem d_M_mayHave_96 : decode b_M_mayHave 96 = .ok (.goto (-49), 3) := by decide +kernel
theorem d_M_mayHave_99 : decode b_M_mayHave 99 = .ok (.iconst 1, 1) := by decide +kernel
theorem d_M_mayHave_100 : decode b_M_mayHave 100 = .ok (.ireturn, 1) := by decide +kernel
theorem d_M_countFor_0 : decode b_M_countFor 0 = .ok (.iconst 0, 1) := by decide +kernel
theorem d_M_countFor_1 : decode b_M_countFor 1 = .ok (.istore_n 2, 1) := by decide +kernel
theorem d_M_countFor_2 : decode b_M_countFor 2 = .ok (.iconst 0, 1) := by decide +kernel
theorem d_M_countFor_3 : decode b_M_countFor 3 = .ok (.istore_n 3, 1) := by decide +kernel
theorem d_M_countFor_4 : decode b_M_countFor 4 = .ok (.iload_n 3, 1) := by decide +kernel
theorem d_M_countFor_5 : decode b_M_countFor 5 = .ok (.aload_n 0, 1) := by decide +kernel
theorem d_M_countFor_6 : decode b_M_countFor 6 = .ok (.getfield 102, 3) := by decide +kernel
theorem d_M_countFor_9 : decode b_M_countFor 9 = .ok (.if_icmp .ge 26, 3) := by decide +kernel
theorem d_M_countFor_12 : decode b_M_countFor 12 = .ok (.iload_n 2, 1) := by decide +kernel
theorem d_M_countFor_13 : decode b_M_countFor 13 = .ok (.aload_n 0, 1) := by decide +kernel
theorem d_M_countFor_14 : decode b_M_countFor 14 = .ok (.iload_n 1, 1) := by decide +kernel
theorem d_M_countFor_15 : decode b_M_countFor 15 = .ok (.iload_n 3, 1) := by decide +kernel
theorem d_M_countFor_16 : decode b_M_countFor 16 = .ok (.invokevirtual 122, 3) := by decide +kernel
theorem d_M_countFor_19 : decode b_M_countFor 19 = .ok (.ifCond .eq 7, 3) := by decide +kernel
theorem d_M_countFor_22 : decode b_M_countFor 22 = .ok (.iconst 1, 1) := by decide +kernel
theorem d_M_countFor_23 : decode b_M_countFor 23 = .ok (.goto 4, 3) := by decide +kernel
theorem d_M_countFor_26 : decode b_M_countFor 26 = .ok (.iconst 0, 1) := by decide +kernel
theorem d_M_countFor_27 : decode b_M_countFor 27 = .ok (.iadd, 1) := by decide +kernel
theorem d_M_countFor_28 : decode b_M_countFor 28 = .ok (.istore_n 2, 1) := by decide +kernel
theorem d_M_countFor_29 : decode b_M_countFor 29 = .ok (.iinc 3 1, 3) := by decide +kernel
theorem d_M_countFor_32 : decode b_M_countFor 32 = .ok (.goto (-28), 3) := by decide +kernel
theorem d_M_countFor_35 : decode b_M_countFor 35 = .ok (.iload_n 2, 1) := by decide +kernel
theorem d_M_countFor_36 : decode b_M_countFor 36 = .ok (.ireturn, 1) := by decide +kernel
theorem d_M_clearNow_0 : decode b_M_clearNow 0 = .ok (.iconst 0, 1) := by decide +kernel
theorem d_M_clearNow_1 : decode b_M_clearNow 1 = .ok (.istore_n 1, 1) := by decide +kernel
theorem d_M_clearNow_2 : decode b_M_clearNow 2 = .ok (.iload_n 1, 1) := by decide +kernel
theorem d_M_clearNow_3 : decode b_M_clearNow 3 = .ok (.bipush 36, 2) := by decide +kernel
theorem d_M_clearNow_5 : decode b_M_clearNow 5 = .ok (.if_icmp .ge 16, 3) := by decide +kernel
theorem d_M_clearNow_8 : decode b_M_clearNow 8 = .ok (.aload_n 0, 1) := by decide +kernel
theorem d_M_clearNow_9 : decode b_M_clearNow 9 = .ok (.getfield 41, 3) := by decide +kernel
theorem d_M_clearNow_12 : decode b_M_clearNow 12 = .ok (.iload_n 1, 1) := by decide +kernel
theorem d_M_clearNow_13 : decode b_M_clearNow 13 = .ok (.iconst (-1), 1) := by decide +kernel
theorem d_M_clearNow_14 : decode b_M_clearNow 14 = .ok (.iastore, 1) := by decide +kernel
theorem d_M_clearNow_15 : decode b_M_clearNow 15 = .ok (.iinc 1 1, 3) := by decide +kernel
theorem d_M_clearNow_18 : decode b_M_clearNow 18 = .ok (.goto (-16), 3) := by decide +kernel
theorem d_M_clearNow_21 : decode b_M_clearNow 21 = .ok (.return_, 1) := by decide +kernel
theorem d_M_slot_0 : decode b_M_slot 0 = .ok (.aload_n 0, 1) := by decide +kernel
theorem d_M_slot_1 : decode b_M_slot 1 = .ok (.iconst 0, 1) := by decide +kernel
theorem d_M_slot_2 : decode b_M_slot 2 = .ok (.putfield 75, 3) := by decide +kernel
theorem d_M_slot_5 : decode b_M_slot 5 = .ok (.aload_n 0, 1) := by decide +kernel
theorem d_M_slot_6 : decode b_M_slot 6 = .ok (.iload_n 1, 1) := by decide +kernel
theorem d_M_slot_7 : decode b_M_slot 7 = .ok (.invokevirtual 112, 3) := by decide +kernel
theorem d_M_slot_10 : decode b_M_slot 10 = .ok (.ifCond .ne 5, 3) := by decide +kernel
theorem d_M_slot_13 : decode b_M_slot 13 = .ok (.iconst (-1), 1) := by decide +kernel
theorem d_M_slot_14 : decode b_M_slot 14 = .ok (.ireturn, 1) := by decide +kernel
theorem d_M_slot_15 : decode b_M_slot 15 = .ok (.iload_n 2, 1) := by decide +kernel
theorem d_M_slot_16 : decode b_M_slot 16 = .ok (.tableswitch 107 0 5 #[40, 47, 54, 68, 75, 89], 40) := by decide +kernel
theorem d_M_slot_56 : decode b_M_slot 56 = .ok (.aload_n 0, 1) := by decide +kernel
theorem d_M_slot_57 : decode b_M_slot 57 = .ok (.getfield 29, 3) := by decide +kernel
theorem d_M_slot_60 : decode b_M_slot 60 = .ok (.iload_n 1, 1) := by decide +kernel
theorem d_M_slot_61 : decode b_M_slot 61 = .ok (.iaload, 1) := by decide +kernel
theorem d_M_slot_62 : decode b_M_slot 62 = .ok (.ireturn, 1) := by decide +kernel
theorem d_M_slot_63 : decode b_M_slot 63 = .ok (.aload_n 0, 1) := by decide +kernel
theorem d_M_slot_64 : decode b_M_slot 64 = .ok (.getfield 32, 3) := by decide +kernel
theorem d_M_slot_67 : decode b_M_slot 67 = .ok (.iload_n 1, 1) := by decide +kernel
theorem d_M_slot_68 : decode b_M_slot 68 = .ok (.iaload, 1) := by decide +kernel
theorem d_M_slot_69 : decode b_M_slot 69 = .ok (.ireturn, 1) := by decide +kernel
theorem d_M_slot_70 : decode b_M_slot 70 = .ok (.iload_n 1, 1) := by decide +kernel
theorem d_M_slot_71 : decode b_M_slot 71 = .ok (.aload_n 0, 1) := by decide +kernel
theorem d_M_slot_72 : decode b_M_slot 72 = .ok (.getfield 85, 3) := by decide +kernel
theorem d_M_slot_75 : decode b_M_slot 75 = .ok (.if_icmp .ge 7, 3) := by decide +kernel
theorem d_M_slot_78 : decode b_M_slot 78 = .ok (.iconst 0, 1) := by decide +kernel
theorem d_M_slot_79 : decode b_M_slot 79 = .ok (.goto 4, 3) := by decide +kernel
theorem d_M_slot_82 : decode b_M_slot 82 = .ok (.iconst 1, 1) := by decide +kernel
theorem d_M_slot_83 : decode b_M_slot 83 = .ok (.ireturn, 1) := by decide +kernel
theorem d_M_slot_84 : decode b_M_slot 84 = .ok (.aload_n 0, 1) := by decide +kernel
theorem d_M_slot_85 : decode b_M_slot 85 = .ok (.getfield 38, 3) := by decide +kernel
theorem d_M_slot_88 : decode b_M_slot 88 = .ok (.iload_n 1, 1) := by decide +kernel
theorem d_M_slot_89 : decode b_M_slot 89 = .ok (.iaload, 1) := by decide +kernel
theorem d_M_slot_90 : decode b_M_slot 90 = .ok (.ireturn, 1) := by decide +kernel
theorem d_M_slot_91 : decode b_M_slot 91 = .ok (.aload_n 0, 1) := by decide +kernel
theorem d_M_slot_92 : decode b_M_slot 92 = .ok (.invokevirtual 125, 3) := by decide +kernel
theorem d_M_slot_95 : decode b_M_slot 95 = .ok (.aload_n 0, 1) := by decide +kernel
theorem d_M_slot_96 : decode b_M_slot 96 = .ok (.invokevirtual 128, 3) := by decide +kernel
theorem d_M_slot_99 : decode b_M_slot 99 = .ok (.aload_n 0, 1) := by decide +kernel
theorem d_M_slot_100 : decode b_M_slot 100 = .ok (.iload_n 1, 1) := by decide +kernel
theorem d_M_slot_101 : decode b_M_slot 101 = .ok (.invokevirtual 131, 3) := by decide +kernel
theorem d_M_slot_104 : decode b_M_slot 104 = .ok (.ireturn, 1) := by decide +kernel
theorem d_M_slot_105 : decode b_M_slot 105 = .ok (.aload_n 0, 1) := by decide +kernel
theorem d_M_slot_106 : decode b_M_slot 106 = .ok (.getfield 91, 3) := by decide +kernel
theorem d_M_slot_109 : decode b_M_slot 109 = .ok (.ifCond .eq 12, 3) := by decide +kernel
theorem d_M_slot_112 : decode b_M_slot 112 = .ok (.aload_n 0, 1) := by decide +kernel
theorem d_M_slot_113 : decode b_M_slot 113 = .ok (.getfield 44, 3) := by decide +kernel
theorem d_M_slot_116 : decode b_M_slot 116 = .ok (.iload_n 1, 1) := by decide +kernel
theorem d_M_slot_117 : decode b_M_slot 117 = .ok (.iaload, 1) := by decide +kernel
theorem d_M_slot_118 : decode b_M_slot 118 = .ok (.goto 4, 3) := by decide +kernel
theorem d_M_slot_121 : decode b_M_slot 121 = .ok (.iconst (-1), 1) := by decide +kernel
theorem d_M_slot_122 : decode b_M_slot 122 = .ok (.ireturn, 1) := by decide +kernel
theorem d_M_slot_123 : decode b_M_slot 123 = .ok (.iconst (-1), 1) := by decide +kernel
theorem d_M_slot_124 : decode b_M_slot 124 = .ok (.ireturn, 1) := by decide +kernel
theorem d_M_isBefore_0 : decode b_M_isBefore 0 = .ok (.aload_n 0, 1) := by decide +kernel
theorem d_M_isBefore_1 : decode b_M_isBefore 1 = .ok (.getfield 26, 3) := by decide +kernel
theorem d_M_isBefore_4 : decode b_M_isBefore 4 = .ok (.iload_n 1, 1) := by decide +kernel
theorem d_M_isBefore_5 : decode b_M_isBefore 5 = .ok (.iaload, 1) := by decide +kernel
theorem d_M_isBefore_6 : decode b_M_isBefore 6 = .ok (.aload_n 0, 1) := by decide +kernel
theorem d_M_isBefore_7 : decode b_M_isBefore 7 = .ok (.getfield 26, 3) := by decide +kernel
theorem d_M_isBefore_10 : decode b_M_isBefore 10 = .ok (.iload_n 2, 1) := by decide +kernel
theorem d_M_isBefore_11 : decode b_M_isBefore 11 = .ok (.iaload, 1) := by decide +kernel
theorem d_M_isBefore_12 : decode b_M_isBefore 12 = .ok (.if_icmp .eq 26, 3) := by decide +kernel
theorem d_M_isBefore_15 : decode b_M_isBefore 15 = .ok (.aload_n 0, 1) := by decide +kernel
theorem d_M_isBefore_16 : decode b_M_isBefore 16 = .ok (.getfield 26, 3) := by decide +kernel
theorem d_M_isBefore_19 : decode b_M_isBefore 19 = .ok (.iload_n 1, 1) := by decide +kernel
theorem d_M_isBefore_20 : decode b_M_isBefore 20 = .ok (.iaload, 1) := by decide +kernel
theorem d_M_isBefore_21 : decode b_M_isBefore 21 = .ok (.aload_n 0, 1) := by decide +kernel
theorem d_M_isBefore_22 : decode b_M_isBefore 22 = .ok (.getfield 26, 3) := by decide +kernel
theorem d_M_isBefore_25 : decode b_M_isBefore 25 = .ok (.iload_n 2, 1) := by decide +kernel
theorem d_M_isBefore_26 : decode b_M_isBefore 26 = .ok (.iaload, 1) := by decide +kernel
theorem d_M_isBefore_27 : decode b_M_isBefore 27 = .ok (.if_icmp .le 7, 3) := by decide +kernel
theorem d_M_isBefore_30 : decode b_M_isBefore 30 = .ok (.iconst 1, 1) := by decide +kernel
theorem d_M_isBefore_31 : decode b_M_isBefore 31 = .ok (.goto 17, 3) := by decide +kernel
theorem d_M_isBefore_34 : decode b_M_isBefore 34 = .ok (.iconst 0, 1) := by decide +kernel
theorem d_M_isBefore_35 : decode b_M_isBefore 35 = .ok (.goto 13, 3) := by decide +kernel
theorem d_M_isBefore_38 : decode b_M_isBefore 38 = .ok (.iload_n 1, 1) := by decide +kernel
theorem d_M_isBefore_39 : decode b_M_isBefore 39 = .ok (.iload_n 2, 1) := by decide +kernel
theorem d_M_isBefore_40 : decode b_M_isBefore 40 = .ok (.if_icmp .ge 7, 3) := by decide +kernel
theorem d_M_isBefore_43 : decode b_M_isBefore 43 = .ok (.iconst 1, 1) := by decide +kernel
theorem d_M_isBefore_44 : decode b_M_isBefore 44 = .ok (.goto 4, 3) := by decide +kernel
theorem d_M_isBefore_47 : decode b_M_isBefore 47 = .ok (.iconst 0, 1) := by decide +kernel
theorem d_M_isBefore_48 : decode b_M_isBefore 48 = .ok (.ireturn, 1) := by decide +kernel
theorem d_M_open_0 : decode b_M_open 0 = .ok (.aload_n 0, 1) := by decide +kernel
theorem d_M_open_1 : decode b_M_open 1 = .ok (.invokevirtual 128, 3) := by decide +kernel
theorem d_M_open_4 : decode b_M_open 4 = .ok (.iconst (-1), 1) := by decide +kernel
theorem d_M_open_5 : decode b_M_open 5 = .ok (.istore_n 2, 1) := by decide +kernel
theorem d_M_open_6 : decode b_M_open 6 = .ok (.bipush 81, 2) := by decide +kernel
theorem d_M_open_8 : decode b_M_open 8 = .ok (.istore_n 3, 1) := by decide +kernel
theorem d_M_open_9 : decode b_M_open 9 = .ok (.iconst 0, 1) := by decide +kernel
theorem d_M_open_10 : decode b_M_open 10 = .ok (.istore 4, 2) := by decide +kernel
theorem d_M_open_12 : decode b_M_open 12 = .ok (.iload 4, 2) := by decide +kernel
theorem d_M_open_14 : decode b_M_open 14 = .ok (.aload_n 0, 1) := by decide +kernel
theorem d_M_open_15 : decode b_M_open 15 = .ok (.getfield 82, 3) := by decide +kernel
theorem d_M_open_18 : decode b_M_open 18 = .ok (.if_icmp .ge 46, 3) := by decide +kernel
theorem d_M_open_21 : decode b_M_open 21 = .ok (.aload_n 0, 1) := by decide +kernel
theorem d_M_open_22 : decode b_M_open 22 = .ok (.getfield 41, 3) := by decide +kernel
theorem d_M_open_25 : decode b_M_open 25 = .ok (.iload 4, 2) := by decide +kernel
theorem d_M_open_27 : decode b_M_open 27 = .ok (.iaload, 1) := by decide +kernel
theorem d_M_open_28 : decode b_M_open 28 = .ok (.iconst (-1), 1) := by decide +kernel
theorem d_M_open_29 : decode b_M_open 29 = .ok (.if_icmp .eq 6, 3) := by decide +kernel
theorem d_M_open_32 : decode b_M_open 32 = .ok (.goto 26, 3) := by decide +kernel
theorem d_M_open_35 : decode b_M_open 35 = .ok (.aload_n 0, 1) := by decide +kernel
theorem d_M_open_36 : decode b_M_open 36 = .ok (.iload 4, 2) := by decide +kernel
theorem d_M_open_38 : decode b_M_open 38 = .ok (.invokevirtual 131, 3) := by decide +kernel
theorem d_M_open_41 : decode b_M_open 41 = .ok (.istore 5, 2) := by decide +kernel
theorem d_M_open_43 : decode b_M_open 43 = .ok (.iload 5, 2) := by decide +kernel
theorem d_M_open_45 : decode b_M_open 45 = .ok (.iload_n 3, 1) := by decide +kernel
theorem d_M_open_46 : decode b_M_open 46 = .ok (.if_icmp .lt 6, 3) := by decide +kernel
theorem d_M_open_49 : decode b_M_open 49 = .ok (.goto 9, 3) := by decide +kernel
theorem d_M_open_52 : decode b_M_open 52 = .ok (.iload 4, 2) := by decide +kernel
theorem d_M_open_54 : decode b_M_open 54 = .ok (.istore_n 2, 1) := by decide +kernel
theorem d_M_open_55 : decode b_M_open 55 = .ok (.iload 5, 2) := by decide +kernel
theorem d_M_open_57 : decode b_M_open 57 = .ok (.istore_n 3, 1) := by decide +kernel
theorem d_M_open_58 : decode b_M_open 58 = .ok (.iinc 4 1, 3) := by decide +kernel
theorem d_M_open_61 : decode b_M_open 61 = .ok (.goto (-49), 3) := by decide +kernel
theorem d_M_open_64 : decode b_M_open 64 = .ok (.iload_n 2, 1) := by decide +kernel
theorem d_M_open_65 : decode b_M_open 65 = .ok (.iconst (-1), 1) := by decide +kernel
theorem d_M_open_66 : decode b_M_open 66 = .ok (.if_icmp .ne 5, 3) := by decide +kernel
theorem d_M_open_69 : decode b_M_open 69 = .ok (.iconst 0, 1) := by decide +kernel
theorem d_M_open_70 : decode b_M_open 70 = .ok (.ireturn, 1) := by decide +kernel
theorem d_M_open_71 : decode b_M_open 71 = .ok (.aload_n 0, 1) := by decide +kernel
theorem d_M_open_72 : decode b_M_open 72 = .ok (.getfield 50, 3) := by decide +kernel
theorem d_M_open_75 : decode b_M_open 75 = .ok (.iload_n 1, 1) := by decide +kernel
theorem d_M_open_76 : decode b_M_open 76 = .ok (.iload_n 2, 1) := by decide +kernel
theorem d_M_open_77 : decode b_M_open 77 = .ok (.iastore, 1) := by decide +kernel
theorem d_M_open_78 : decode b_M_open 78 = .ok (.aload_n 0, 1) := by decide +kernel
theorem d_M_open_79 : decode b_M_open 79 = .ok (.getfield 56, 3) := by decide +kernel
theorem d_M_open_82 : decode b_M_open 82 = .ok (.iload_n 1, 1) := by decide +kernel
theorem d_M_open_83 : decode b_M_open 83 = .ok (.iconst 0, 1) := by decide +kernel
theorem d_M_open_84 : decode b_M_open 84 = .ok (.iastore, 1) := by decide +kernel
theorem d_M_open_85 : decode b_M_open 85 = .ok (.iconst 0, 1) := by decide +kernel
theorem d_M_open_86 : decode b_M_open 86 = .ok (.istore 4, 2) := by decide +kernel
theorem d_M_open_88 : decode b_M_open 88 = .ok (.iconst 0, 1) := by decide +kernel
theorem d_M_open_89 : decode b_M_open 89 = .ok (.istore 5, 2) := by decide +kernel
theorem d_M_open_91 : decode b_M_open 91 = .ok (.iload 5, 2) := by decide +kernel
theorem d_M_open_93 : decode b_M_open 93 = .ok (.aload_n 0, 1) := by decide +kernel
theorem d_M_open_94 : decode b_M_open 94 = .ok (.getfield 102, 3) := by decide +kernel
theorem d_M_open_97 : decode b_M_open 97 = .ok (.if_icmp .ge 103, 3) := by decide +kernel
theorem d_M_open_100 : decode b_M_open 100 = .ok (.aload_n 0, 1) := by decide +kernel
theorem d_M_open_101 : decode b_M_open 101 = .ok (.iload_n 2, 1) := by decide +kernel
theorem d_M_open_102 : decode b_M_open 102 = .ok (.iload 5, 2) := by decide +kernel
theorem d_M_open_104 : decode b_M_open 104 = .ok (.invokevirtual 122, 3) := by decide +kernel
theorem d_M_open_107 : decode b_M_open 107 = .ok (.ifCond .ne 6, 3) := by decide +kernel
theorem d_M_open_110 : decode b_M_open 110 = .ok (.goto 84, 3) := by decide +kernel
theorem d_M_open_113 : decode b_M_open 113 = .ok (.iload 4, 2) := by decide +kernel
theorem d_M_open_115 : decode b_M_open 115 = .ok (.istore 6, 2) := by decide +kernel
theorem d_M_open_117 : decode b_M_open 117 = .ok (.iload 6, 2) := by decide +kernel
theorem d_M_open_119 : decode b_M_open 119 = .ok (.ifCond .le 58, 3) := by decide +kernel
theorem d_M_open_122 : decode b_M_open 122 = .ok (.aload_n 0, 1) := by decide +kernel
theorem d_M_open_123 : decode b_M_open 123 = .ok (.iload 5, 2) := by decide +kernel
theorem d_M_open_125 : decode b_M_open 125 = .ok (.aload_n 0, 1) := by decide +kernel
theorem d_M_open_126 : decode b_M_open 126 = .ok (.getfield 59, 3) := by decide +kernel
theorem d_M_open_129 : decode b_M_open 129 = .ok (.bipush 80, 2) := by decide +kernel
theorem d_M_open_131 : decode b_M_open 131 = .ok (.iload_n 1, 1) := by decide +kernel
theorem d_M_open_132 : decode b_M_open 132 = .ok (.imul, 1) := by decide +kernel
theorem d_M_open_133 : decode b_M_open 133 = .ok (.iload 6, 2) := by decide +kernel
theorem d_M_open_135 : decode b_M_open 135 = .ok (.iadd, 1) := by decide +kernel
theorem d_M_open_136 : decode b_M_open 136 = .ok (.iconst 1, 1) := by decide +kernel
theorem d_M_open_137 : decode b_M_open 137 = .ok (.isub, 1) := by decide +kernel
theorem d_M_open_138 : decode b_M_open 138 = .ok (.iaload, 1) := by decide +kernel
theorem d_M_open_139 : decode b_M_open 139 = .ok (.invokevirtual 134, 3) := by decide +kernel
theorem d_M_open_142 : decode b_M_open 142 = .ok (.ifCond .eq 35, 3) := by decide +kernel
theorem d_M_open_145 : decode b_M_open 145 = .ok (.aload_n 0, 1) := by decide +kernel
theorem d_M_open_146 : decode b_M_open 146 = .ok (.getfield 59, 3) := by decide +kernel
theorem d_M_open_149 : decode b_M_open 149 = .ok (.bipush 80, 2) := by decide +kernel
theorem d_M_open_151 : decode b_M_open 151 = .ok (.iload_n 1, 1) := by decide +kernel
theorem d_M_open_152 : decode b_M_open 152 = .ok (.imul, 1) := by decide +kernel
theorem d_M_open_153 : decode b_M_open 153 = .ok (.iload 6, 2) := by decide +kernel
theorem d_M_open_155 : decode b_M_open 155 = .ok (.iadd, 1) := by decide +kernel
theorem d_M_open_156 : decode b_M_open 156 = .ok (.aload_n 0, 1) := by decide +kernel
theorem d_M_open_157 : decode b_M_open 157 = .ok (.getfield 59, 3) := by decide +kernel
theorem d_M_open_160 : decode b_M_open 160 = .ok (.bipush 80, 2) := by decide +kernel
theorem d_M_open_162 : decode b_M_open 162 = .ok (.iload_n 1, 1) := by decide +kernel
theorem d_M_open_163 : decode b_M_open 163 = .ok (.imul, 1) := by decide +kernel
theorem d_M_open_164 : decode b_M_open 164 = .ok (.iload 6, 2) := by decide +kernel
theorem d_M_open_166 : decode b_M_open 166 = .ok (.iadd, 1) := by decide +kernel
theorem d_M_open_167 : decode b_M_open 167 = .ok (.iconst 1, 1) := by decide +kernel
theorem d_M_open_168 : decode b_M_open 168 = .ok (.isub, 1) := by decide +kernel
theorem d_M_open_169 : decode b_M_open 169 = .ok (.iaload, 1) := by decide +kernel
theorem d_M_open_170 : decode b_M_open 170 = .ok (.iastore, 1) := by decide +kernel
theorem d_M_open_171 : decode b_M_open 171 = .ok (.iinc 6 (-1), 3) := by decide +kernel
theorem d_M_open_174 : decode b_M_open 174 = .ok (.goto (-57), 3) := by decide +kernel
theorem d_M_open_177 : decode b_M_open 177 = .ok (.aload_n 0, 1) := by decide +kernel
theorem d_M_open_178 : decode b_M_open 178 = .ok (.getfield 59, 3) := by decide +kernel
theorem d_M_open_181 : decode b_M_open 181 = .ok (.bipush 80, 2) := by decide +kernel
theorem d_M_open_183 : decode b_M_open 183 = .ok (.iload_n 1, 1) := by decide +kernel
theorem d_M_open_184 : decode b_M_open 184 = .ok (.imul, 1) := by decide +kernel
theorem d_M_open_185 : decode b_M_open 185 = .ok (.iload 6, 2) := by decide +kernel
theorem d_M_open_187 : decode b_M_open 187 = .ok (.iadd, 1) := by decide +kernel
theorem d_M_open_188 : decode b_M_open 188 = .ok (.iload 5, 2) := by decide +kernel
theorem d_M_open_190 : decode b_M_open 190 = .ok (.iastore, 1) := by decide +kernel
theorem d_M_open_191 : decode b_M_open 191 = .ok (.iinc 4 1, 3) := by decide +kernel
theorem d_M_open_194 : decode b_M_open 194 = .ok (.iinc 5 1, 3) := by decide +kernel
theorem d_M_open_197 : decode b_M_open 197 = .ok (.goto (-106), 3) := by decide +kernel
theorem d_M_open_200 : decode b_M_open 200 = .ok (.aload_n 0, 1) := by decide +kernel
theorem d_M_open_201 : decode b_M_open 201 = .ok (.getfield 53, 3) := by decide +kernel
theorem d_M_open_204 : decode b_M_open 204 = .ok (.iload_n 1, 1) := by decide +kernel
theorem d_M_open_205 : decode b_M_open 205 = .ok (.iload 4, 2) := by decide +kernel
theorem d_M_open_207 : decode b_M_open 207 = .ok (.iastore, 1) := by decide +kernel
theorem d_M_open_208 : decode b_M_open 208 = .ok (.iconst 1, 1) := by decide +kernel
theorem d_M_open_209 : decode b_M_open 209 = .ok (.ireturn, 1) := by decide +kernel
theorem d_M_sumNow_0 : decode b_M_sumNow 0 = .ok (.iconst 0, 1) := by decide +kernel
theorem d_M_sumNow_1 : decode b_M_sumNow 1 = .ok (.istore_n 1, 1) := by decide +kernel
theorem d_M_sumNow_2 : decode b_M_sumNow 2 = .ok (.iconst 0, 1) := by decide +kernel
theorem d_M_sumNow_3 : decode b_M_sumNow 3 = .ok (.istore_n 2, 1) := by decide +kernel
theorem d_M_sumNow_4 : decode b_M_sumNow 4 = .ok (.iload_n 2, 1) := by decide +kernel
theorem d_M_sumNow_5 : decode b_M_sumNow 5 = .ok (.aload_n 0, 1) := by decide +kernel
theorem d_M_sumNow_6 : decode b_M_sumNow 6 = .ok (.getfield 82, 3) := by decide +kernel
theorem d_M_sumNow_9 : decode b_M_sumNow 9 = .ok (.if_icmp .ge 23, 3) := by decide +kernel
theorem d_M_sumNow_12 : decode b_M_sumNow 12 = .ok (.iload_n 1, 1) := by decide +kernel
theorem d_M_sumNow_13 : decode b_M_sumNow 13 = .ok (.aload_n 0, 1) := by decide +kernel
theorem d_M_sumNow_14 : decode b_M_sumNow 14 = .ok (.getfield 26, 3) := by decide +kernel
theorem d_M_sumNow_17 : decode b_M_sumNow 17 = .ok (.aload_n 0, 1) := by decide +kernel
theorem d_M_sumNow_18 : decode b_M_sumNow 18 = .ok (.getfield 41, 3) := by decide +kernel
theorem d_M_sumNow_21 : decode b_M_sumNow 21 = .ok (.iload_n 2, 1) := by decide +kernel
theorem d_M_sumNow_22 : decode b_M_sumNow 22 = .ok (.iaload, 1) := by decide +kernel
theorem d_M_sumNow_23 : decode b_M_sumNow 23 = .ok (.iaload, 1) := by decide +kernel
theorem d_M_sumNow_24 : decode b_M_sumNow 24 = .ok (.iadd, 1) := by decide +kernel
theorem d_M_sumNow_25 : decode b_M_sumNow 25 = .ok (.istore_n 1, 1) := by decide +kernel
theorem d_M_sumNow_26 : decode b_M_sumNow 26 = .ok (.iinc 2 1, 3) := by decide +kernel
theorem d_M_sumNow_29 : decode b_M_sumNow 29 = .ok (.goto (-25), 3) := by decide +kernel
theorem d_M_sumNow_32 : decode b_M_sumNow 32 = .ok (.iload_n 1, 1) := by decide +kernel
theorem d_M_sumNow_33 : decode b_M_sumNow 33 = .ok (.ireturn, 1) := by decide +kernel
theorem d_M_search_0 : decode b_M_search 0 = .ok (.aload_n 0, 1) := by decide +kernel
theorem d_M_search_1 : decode b_M_search 1 = .ok (.invokevirtual 125, 3) := by decide +kernel
theorem d_M_search_4 : decode b_M_search 4 = .ok (.aload_n 0, 1) := by decide +kernel
theorem d_M_search_5 : decode b_M_search 5 = .ok (.iconst 0, 1) := by decide +kernel
theorem d_M_search_6 : decode b_M_search 6 = .ok (.putfield 91, 3) := by decide +kernel
theorem d_M_search_9 : decode b_M_search 9 = .ok (.aload_n 0, 1) := by decide +kernel
theorem d_M_search_10 : decode b_M_search 10 = .ok (.iconst 0, 1) := by decide +kernel
theorem d_M_search_11 : decode b_M_search 11 = .ok (.putfield 137, 3) := by decide +kernel
theorem d_M_search_14 : decode b_M_search 14 = .ok (.aload_n 0, 1) := by decide +kernel
theorem d_M_search_15 : decode b_M_search 15 = .ok (.iconst 0, 1) := by decide +kernel
theorem d_M_search_16 : decode b_M_search 16 = .ok (.putfield 140, 3) := by decide +kernel
theorem d_M_search_19 : decode b_M_search 19 = .ok (.iconst (-1), 1) := by decide +kernel
theorem d_M_search_20 : decode b_M_search 20 = .ok (.istore_n 3, 1) := by decide +kernel
theorem d_M_search_21 : decode b_M_search 21 = .ok (.iconst 0, 1) := by decide +kernel
theorem d_M_search_22 : decode b_M_search 22 = .ok (.istore 4, 2) := by decide +kernel
theorem d_M_search_24 : decode b_M_search 24 = .ok (.iconst 1, 1) := by decide +kernel
theorem d_M_search_25 : decode b_M_search 25 = .ok (.istore 5, 2) := by decide +kernel
theorem d_M_search_27 : decode b_M_search 27 = .ok (.iload 4, 2) := by decide +kernel
theorem d_M_search_29 : decode b_M_search 29 = .ok (.ifCond .lt 199, 3) := by decide +kernel
theorem d_M_search_32 : decode b_M_search 32 = .ok (.iload 5, 2) := by decide +kernel
theorem d_M_search_34 : decode b_M_search 34 = .ok (.ifCond .eq 85, 3) := by decide +kernel
theorem d_M_search_37 : decode b_M_search 37 = .ok (.aload_n 0, 1) := by decide +kernel
theorem d_M_search_38 : decode b_M_search 38 = .ok (.iload 4, 2) := by decide +kernel
theorem d_M_search_40 : decode b_M_search 40 = .ok (.invokevirtual 143, 3) := by decide +kernel
theorem d_M_search_43 : decode b_M_search 43 = .ok (.ifCond .ne 76, 3) := by decide +kernel
theorem d_M_search_46 : decode b_M_search 46 = .ok (.aload_n 0, 1) := by decide +kernel
theorem d_M_search_47 : decode b_M_search 47 = .ok (.dup, 1) := by decide +kernel
theorem d_M_search_48 : decode b_M_search 48 = .ok (.getfield 140, 3) := by decide +kernel
theorem d_M_search_51 : decode b_M_search 51 = .ok (.iconst 1, 1) := by decide +kernel
theorem d_M_search_52 : decode b_M_search 52 = .ok (.iadd, 1) := by decide +kernel
theorem d_M_search_53 : decode b_M_search 53 = .ok (.putfield 140, 3) := by decide +kernel
theorem d_M_search_56 : decode b_M_search 56 = .ok (.aload_n 0, 1) := by decide +kernel
theorem d_M_search_57 : decode b_M_search 57 = .ok (.invokevirtual 146, 3) := by decide +kernel
theorem d_M_search_60 : decode b_M_search 60 = .ok (.iload_n 3, 1) := by decide +kernel
theorem d_M_search_61 : decode b_M_search 61 = .ok (.if_icmp .le 43, 3) := by decide +kernel
theorem d_M_search_64 : decode b_M_search 64 = .ok (.aload_n 0, 1) := by decide +kernel
theorem d_M_search_65 : decode b_M_search 65 = .ok (.invokevirtual 146, 3) := by decide +kernel
theorem d_M_search_68 : decode b_M_search 68 = .ok (.istore_n 3, 1) := by decide +kernel
theorem d_M_search_69 : decode b_M_search 69 = .ok (.aload_n 0, 1) := by decide +kernel
theorem d_M_search_70 : decode b_M_search 70 = .ok (.iconst 1, 1) := by decide +kernel
theorem d_M_search_71 : decode b_M_search 71 = .ok (.putfield 91, 3) := by decide +kernel
theorem d_M_search_74 : decode b_M_search 74 = .ok (.iconst 0, 1) := by decide +kernel
theorem d_M_search_75 : decode b_M_search 75 = .ok (.istore 6, 2) := by decide +kernel
theorem d_M_search_77 : decode b_M_search 77 = .ok (.iload 6, 2) := by decide +kernel
theorem d_M_search_79 : decode b_M_search 79 = .ok (.bipush 36, 2) := by decide +kernel
theorem d_M_search_81 : decode b_M_search 81 = .ok (.if_icmp .ge 23, 3) := by decide +kernel
theorem d_M_search_84 : decode b_M_search 84 = .ok (.aload_n 0, 1) := by decide +kernel
theorem d_M_search_85 : decode b_M_search 85 = .ok (.getfield 44, 3) := by decide +kernel
theorem d_M_search_88 : decode b_M_search 88 = .ok (.iload 6, 2) := by decide +kernel
theorem d_M_search_90 : decode b_M_search 90 = .ok (.aload_n 0, 1) := by decide +kernel
