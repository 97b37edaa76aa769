theorem d_F_agrees_1 : decode b_F_agrees 1 = .ok (.ifCond .eq 8, 3) := by decide +kernel
theorem d_F_agrees_4 : decode b_F_agrees 4 = .ok (.iload_n 0, 1) := by decide +kernel
theorem d_F_agrees_5 : decode b_F_agrees 5 = .ok (.iload_n 1, 1) := by decide +kernel
theorem d_F_agrees_6 : decode b_F_agrees 6 = .ok (.if_icmp .ne 7, 3) := by decide +kernel
theorem d_F_agrees_9 : decode b_F_agrees 9 = .ok (.iconst 1, 1) := by decide +kernel
theorem d_F_agrees_10 : decode b_F_agrees 10 = .ok (.goto 4, 3) := by decide +kernel
theorem d_F_agrees_13 : decode b_F_agrees 13 = .ok (.iconst 0, 1) := by decide +kernel
theorem d_F_agrees_14 : decode b_F_agrees 14 = .ok (.ireturn, 1) := by decide +kernel
theorem d_F_holds_0 : decode b_F_holds 0 = .ok (.aload_n 0, 1) := by decide +kernel
theorem d_F_holds_1 : decode b_F_holds 1 = .ok (.getfield 19, 3) := by decide +kernel
theorem d_F_holds_4 : decode b_F_holds 4 = .ok (.getfield 57, 3) := by decide +kernel
theorem d_F_holds_7 : decode b_F_holds 7 = .ok (.iload_n 1, 1) := by decide +kernel
theorem d_F_holds_8 : decode b_F_holds 8 = .ok (.iaload, 1) := by decide +kernel
theorem d_F_holds_9 : decode b_F_holds 9 = .ok (.iconst (-1), 1) := by decide +kernel
theorem d_F_holds_10 : decode b_F_holds 10 = .ok (.if_icmp .eq 23, 3) := by decide +kernel
theorem d_F_holds_13 : decode b_F_holds 13 = .ok (.aload_n 0, 1) := by decide +kernel
theorem d_F_holds_14 : decode b_F_holds 14 = .ok (.getfield 19, 3) := by decide +kernel
theorem d_F_holds_17 : decode b_F_holds 17 = .ok (.getfield 57, 3) := by decide +kernel
theorem d_F_holds_20 : decode b_F_holds 20 = .ok (.iload_n 1, 1) := by decide +kernel
theorem d_F_holds_21 : decode b_F_holds 21 = .ok (.iaload, 1) := by decide +kernel
theorem d_F_holds_22 : decode b_F_holds 22 = .ok (.aload_n 0, 1) := by decide +kernel
theorem d_F_holds_23 : decode b_F_holds 23 = .ok (.getfield 9, 3) := by decide +kernel
theorem d_F_holds_26 : decode b_F_holds 26 = .ok (.iload_n 1, 1) := by decide +kernel
theorem d_F_holds_27 : decode b_F_holds 27 = .ok (.iaload, 1) := by decide +kernel
theorem d_F_holds_28 : decode b_F_holds 28 = .ok (.if_icmp .eq 5, 3) := by decide +kernel
theorem d_F_holds_31 : decode b_F_holds 31 = .ok (.iconst 0, 1) := by decide +kernel
theorem d_F_holds_32 : decode b_F_holds 32 = .ok (.ireturn, 1) := by decide +kernel
theorem d_F_holds_33 : decode b_F_holds 33 = .ok (.iconst 1, 1) := by decide +kernel
theorem d_F_holds_34 : decode b_F_holds 34 = .ok (.aload_n 0, 1) := by decide +kernel
theorem d_F_holds_35 : decode b_F_holds 35 = .ok (.getfield 19, 3) := by decide +kernel
theorem d_F_holds_38 : decode b_F_holds 38 = .ok (.getfield 60, 3) := by decide +kernel
theorem d_F_holds_41 : decode b_F_holds 41 = .ok (.iload_n 1, 1) := by decide +kernel
theorem d_F_holds_42 : decode b_F_holds 42 = .ok (.iaload, 1) := by decide +kernel
theorem d_F_holds_43 : decode b_F_holds 43 = .ok (.isub, 1) := by decide +kernel
theorem d_F_holds_44 : decode b_F_holds 44 = .ok (.istore_n 2, 1) := by decide +kernel
theorem d_F_holds_45 : decode b_F_holds 45 = .ok (.iconst 0, 1) := by decide +kernel
theorem d_F_holds_46 : decode b_F_holds 46 = .ok (.istore_n 3, 1) := by decide +kernel
theorem d_F_holds_47 : decode b_F_holds 47 = .ok (.iload_n 3, 1) := by decide +kernel
theorem d_F_holds_48 : decode b_F_holds 48 = .ok (.aload_n 0, 1) := by decide +kernel
theorem d_F_holds_49 : decode b_F_holds 49 = .ok (.getfield 19, 3) := by decide +kernel
theorem d_F_holds_52 : decode b_F_holds 52 = .ok (.getfield 63, 3) := by decide +kernel
theorem d_F_holds_55 : decode b_F_holds 55 = .ok (.iload_n 1, 1) := by decide +kernel
theorem d_F_holds_56 : decode b_F_holds 56 = .ok (.iaload, 1) := by decide +kernel
theorem d_F_holds_57 : decode b_F_holds 57 = .ok (.if_icmp .ge 71, 3) := by decide +kernel
theorem d_F_holds_60 : decode b_F_holds 60 = .ok (.aload_n 0, 1) := by decide +kernel
theorem d_F_holds_61 : decode b_F_holds 61 = .ok (.getfield 19, 3) := by decide +kernel
theorem d_F_holds_64 : decode b_F_holds 64 = .ok (.iload_n 1, 1) := by decide +kernel
theorem d_F_holds_65 : decode b_F_holds 65 = .ok (.iload_n 3, 1) := by decide +kernel
theorem d_F_holds_66 : decode b_F_holds 66 = .ok (.invokevirtual 66, 3) := by decide +kernel
theorem d_F_holds_69 : decode b_F_holds 69 = .ok (.istore 4, 2) := by decide +kernel
theorem d_F_holds_71 : decode b_F_holds 71 = .ok (.aload_n 0, 1) := by decide +kernel
theorem d_F_holds_72 : decode b_F_holds 72 = .ok (.getfield 23, 3) := by decide +kernel
theorem d_F_holds_75 : decode b_F_holds 75 = .ok (.aload_n 0, 1) := by decide +kernel
theorem d_F_holds_76 : decode b_F_holds 76 = .ok (.getfield 9, 3) := by decide +kernel
theorem d_F_holds_79 : decode b_F_holds 79 = .ok (.iload_n 1, 1) := by decide +kernel
theorem d_F_holds_80 : decode b_F_holds 80 = .ok (.iaload, 1) := by decide +kernel
theorem d_F_holds_81 : decode b_F_holds 81 = .ok (.iload_n 3, 1) := by decide +kernel
theorem d_F_holds_82 : decode b_F_holds 82 = .ok (.invokevirtual 48, 3) := by decide +kernel
theorem d_F_holds_85 : decode b_F_holds 85 = .ok (.istore 5, 2) := by decide +kernel
theorem d_F_holds_87 : decode b_F_holds 87 = .ok (.aload_n 0, 1) := by decide +kernel
theorem d_F_holds_88 : decode b_F_holds 88 = .ok (.getfield 19, 3) := by decide +kernel
theorem d_F_holds_91 : decode b_F_holds 91 = .ok (.getfield 69, 3) := by decide +kernel
theorem d_F_holds_94 : decode b_F_holds 94 = .ok (.iload 4, 2) := by decide +kernel
theorem d_F_holds_96 : decode b_F_holds 96 = .ok (.iaload, 1) := by decide +kernel
theorem d_F_holds_97 : decode b_F_holds 97 = .ok (.iload 5, 2) := by decide +kernel
theorem d_F_holds_99 : decode b_F_holds 99 = .ok (.invokestatic 72, 3) := by decide +kernel
theorem d_F_holds_102 : decode b_F_holds 102 = .ok (.ifCond .eq 18, 3) := by decide +kernel
theorem d_F_holds_105 : decode b_F_holds 105 = .ok (.aload_n 0, 1) := by decide +kernel
theorem d_F_holds_106 : decode b_F_holds 106 = .ok (.iload 4, 2) := by decide +kernel
theorem d_F_holds_108 : decode b_F_holds 108 = .ok (.iload_n 2, 1) := by decide +kernel
theorem d_F_holds_109 : decode b_F_holds 109 = .ok (.invokevirtual 38, 3) := by decide +kernel
theorem d_F_holds_112 : decode b_F_holds 112 = .ok (.iload 5, 2) := by decide +kernel
theorem d_F_holds_114 : decode b_F_holds 114 = .ok (.invokestatic 72, 3) := by decide +kernel
theorem d_F_holds_117 : decode b_F_holds 117 = .ok (.ifCond .ne 5, 3) := by decide +kernel
theorem d_F_holds_120 : decode b_F_holds 120 = .ok (.iconst 0, 1) := by decide +kernel
theorem d_F_holds_121 : decode b_F_holds 121 = .ok (.ireturn, 1) := by decide +kernel
theorem d_F_holds_122 : decode b_F_holds 122 = .ok (.iinc 3 1, 3) := by decide +kernel
theorem d_F_holds_125 : decode b_F_holds 125 = .ok (.goto (-78), 3) := by decide +kernel
theorem d_F_holds_128 : decode b_F_holds 128 = .ok (.iconst 1, 1) := by decide +kernel
theorem d_F_holds_129 : decode b_F_holds 129 = .ok (.ireturn, 1) := by decide +kernel
theorem d_F_firstFault_0 : decode b_F_firstFault 0 = .ok (.aload_n 0, 1) := by decide +kernel
theorem d_F_firstFault_1 : decode b_F_firstFault 1 = .ok (.getfield 15, 3) := by decide +kernel
theorem d_F_firstFault_4 : decode b_F_firstFault 4 = .ok (.iconst (-1), 1) := by decide +kernel
theorem d_F_firstFault_5 : decode b_F_firstFault 5 = .ok (.if_icmp .ne 5, 3) := by decide +kernel
theorem d_F_firstFault_8 : decode b_F_firstFault 8 = .ok (.iconst (-1), 1) := by decide +kernel
theorem d_F_firstFault_9 : decode b_F_firstFault 9 = .ok (.ireturn, 1) := by decide +kernel
theorem d_F_firstFault_10 : decode b_F_firstFault 10 = .ok (.iconst 0, 1) := by decide +kernel
theorem d_F_firstFault_11 : decode b_F_firstFault 11 = .ok (.istore_n 1, 1) := by decide +kernel
theorem d_F_firstFault_12 : decode b_F_firstFault 12 = .ok (.iload_n 1, 1) := by decide +kernel
theorem d_F_firstFault_13 : decode b_F_firstFault 13 = .ok (.aload_n 0, 1) := by decide +kernel
theorem d_F_firstFault_14 : decode b_F_firstFault 14 = .ok (.getfield 19, 3) := by decide +kernel
theorem d_F_firstFault_17 : decode b_F_firstFault 17 = .ok (.getfield 27, 3) := by decide +kernel
theorem d_F_firstFault_20 : decode b_F_firstFault 20 = .ok (.if_icmp .ge 21, 3) := by decide +kernel
theorem d_F_firstFault_23 : decode b_F_firstFault 23 = .ok (.aload_n 0, 1) := by decide +kernel
theorem d_F_firstFault_24 : decode b_F_firstFault 24 = .ok (.iload_n 1, 1) := by decide +kernel
theorem d_F_firstFault_25 : decode b_F_firstFault 25 = .ok (.invokevirtual 53, 3) := by decide +kernel
theorem d_F_firstFault_28 : decode b_F_firstFault 28 = .ok (.ifCond .ne 7, 3) := by decide +kernel
theorem d_F_firstFault_31 : decode b_F_firstFault 31 = .ok (.iconst 1, 1) := by decide +kernel
theorem d_F_firstFault_32 : decode b_F_firstFault 32 = .ok (.iload_n 1, 1) := by decide +kernel
theorem d_F_firstFault_33 : decode b_F_firstFault 33 = .ok (.iadd, 1) := by decide +kernel
theorem d_F_firstFault_34 : decode b_F_firstFault 34 = .ok (.ireturn, 1) := by decide +kernel
theorem d_F_firstFault_35 : decode b_F_firstFault 35 = .ok (.iinc 1 1, 3) := by decide +kernel
theorem d_F_firstFault_38 : decode b_F_firstFault 38 = .ok (.goto (-26), 3) := by decide +kernel
theorem d_F_firstFault_41 : decode b_F_firstFault 41 = .ok (.iconst 0, 1) := by decide +kernel
theorem d_F_firstFault_42 : decode b_F_firstFault 42 = .ok (.ireturn, 1) := by decide +kernel
theorem d_S_narrow_0 : decode b_S_narrow 0 = .ok (.aload_n 0, 1) := by decide +kernel
theorem d_S_narrow_1 : decode b_S_narrow 1 = .ok (.getfield 9, 3) := by decide +kernel
theorem d_S_narrow_4 : decode b_S_narrow 4 = .ok (.iload_n 1, 1) := by decide +kernel
theorem d_S_narrow_5 : decode b_S_narrow 5 = .ok (.dup2, 1) := by decide +kernel
theorem d_S_narrow_6 : decode b_S_narrow 6 = .ok (.laload, 1) := by decide +kernel
theorem d_S_narrow_7 : decode b_S_narrow 7 = .ok (.aload_n 0, 1) := by decide +kernel
theorem d_S_narrow_8 : decode b_S_narrow 8 = .ok (.getfield 26, 3) := by decide +kernel
theorem d_S_narrow_11 : decode b_S_narrow 11 = .ok (.getfield 126, 3) := by decide +kernel
theorem d_S_narrow_14 : decode b_S_narrow 14 = .ok (.iload_n 2, 1) := by decide +kernel
theorem d_S_narrow_15 : decode b_S_narrow 15 = .ok (.laload, 1) := by decide +kernel
theorem d_S_narrow_16 : decode b_S_narrow 16 = .ok (.land, 1) := by decide +kernel
theorem d_S_narrow_17 : decode b_S_narrow 17 = .ok (.lastore, 1) := by decide +kernel
theorem d_S_narrow_18 : decode b_S_narrow 18 = .ok (.aload_n 0, 1) := by decide +kernel
theorem d_S_narrow_19 : decode b_S_narrow 19 = .ok (.getfield 15, 3) := by decide +kernel
theorem d_S_narrow_22 : decode b_S_narrow 22 = .ok (.iload_n 1, 1) := by decide +kernel
theorem d_S_narrow_23 : decode b_S_narrow 23 = .ok (.dup2, 1) := by decide +kernel
theorem d_S_narrow_24 : decode b_S_narrow 24 = .ok (.laload, 1) := by decide +kernel
theorem d_S_narrow_25 : decode b_S_narrow 25 = .ok (.aload_n 0, 1) := by decide +kernel
theorem d_S_narrow_26 : decode b_S_narrow 26 = .ok (.getfield 26, 3) := by decide +kernel
theorem d_S_narrow_29 : decode b_S_narrow 29 = .ok (.getfield 129, 3) := by decide +kernel
theorem d_S_narrow_32 : decode b_S_narrow 32 = .ok (.iload_n 2, 1) := by decide +kernel
theorem d_S_narrow_33 : decode b_S_narrow 33 = .ok (.laload, 1) := by decide +kernel
theorem d_S_narrow_34 : decode b_S_narrow 34 = .ok (.land, 1) := by decide +kernel
theorem d_S_narrow_35 : decode b_S_narrow 35 = .ok (.lastore, 1) := by decide +kernel
theorem d_S_narrow_36 : decode b_S_narrow 36 = .ok (.return_, 1) := by decide +kernel
theorem d_S_openSlot_0 : decode b_S_openSlot 0 = .ok (.aload_n 0, 1) := by decide +kernel
theorem d_S_openSlot_1 : decode b_S_openSlot 1 = .ok (.getfield 22, 3) := by decide +kernel
theorem d_S_openSlot_4 : decode b_S_openSlot 4 = .ok (.getfield 88, 3) := by decide +kernel
theorem d_S_openSlot_7 : decode b_S_openSlot 7 = .ok (.iload_n 1, 1) := by decide +kernel
theorem d_S_openSlot_8 : decode b_S_openSlot 8 = .ok (.iaload, 1) := by decide +kernel
theorem d_S_openSlot_9 : decode b_S_openSlot 9 = .ok (.istore_n 2, 1) := by decide +kernel
theorem d_S_openSlot_10 : decode b_S_openSlot 10 = .ok (.aload_n 0, 1) := by decide +kernel
theorem d_S_openSlot_11 : decode b_S_openSlot 11 = .ok (.getfield 9, 3) := by decide +kernel
theorem d_S_openSlot_14 : decode b_S_openSlot 14 = .ok (.iload_n 1, 1) := by decide +kernel
theorem d_S_openSlot_15 : decode b_S_openSlot 15 = .ok (.aload_n 0, 1) := by decide +kernel
theorem d_S_openSlot_16 : decode b_S_openSlot 16 = .ok (.getfield 26, 3) := by decide +kernel
theorem d_S_openSlot_19 : decode b_S_openSlot 19 = .ok (.getfield 91, 3) := by decide +kernel
theorem d_S_openSlot_22 : decode b_S_openSlot 22 = .ok (.iload_n 2, 1) := by decide +kernel
theorem d_S_openSlot_23 : decode b_S_openSlot 23 = .ok (.laload, 1) := by decide +kernel
theorem d_S_openSlot_24 : decode b_S_openSlot 24 = .ok (.lastore, 1) := by decide +kernel
theorem d_S_openSlot_25 : decode b_S_openSlot 25 = .ok (.aload_n 0, 1) := by decide +kernel
theorem d_S_openSlot_26 : decode b_S_openSlot 26 = .ok (.getfield 15, 3) := by decide +kernel
theorem d_S_openSlot_29 : decode b_S_openSlot 29 = .ok (.iload_n 1, 1) := by decide +kernel
theorem d_S_openSlot_30 : decode b_S_openSlot 30 = .ok (.aload_n 0, 1) := by decide +kernel
theorem d_S_openSlot_31 : decode b_S_openSlot 31 = .ok (.getfield 26, 3) := by decide +kernel
theorem d_S_openSlot_34 : decode b_S_openSlot 34 = .ok (.getfield 96, 3) := by decide +kernel
theorem d_S_openSlot_37 : decode b_S_openSlot 37 = .ok (.iload_n 2, 1) := by decide +kernel
theorem d_S_openSlot_38 : decode b_S_openSlot 38 = .ok (.laload, 1) := by decide +kernel
theorem d_S_openSlot_39 : decode b_S_openSlot 39 = .ok (.lastore, 1) := by decide +kernel
theorem d_S_openSlot_40 : decode b_S_openSlot 40 = .ok (.iconst 0, 1) := by decide +kernel
theorem d_S_openSlot_41 : decode b_S_openSlot 41 = .ok (.istore_n 3, 1) := by decide +kernel
theorem d_S_openSlot_42 : decode b_S_openSlot 42 = .ok (.iload_n 3, 1) := by decide +kernel
theorem d_S_openSlot_43 : decode b_S_openSlot 43 = .ok (.iload_n 2, 1) := by decide +kernel
theorem d_S_openSlot_44 : decode b_S_openSlot 44 = .ok (.if_icmp .ge 44, 3) := by decide +kernel
theorem d_S_openSlot_47 : decode b_S_openSlot 47 = .ok (.aload_n 0, 1) := by decide +kernel
theorem d_S_openSlot_48 : decode b_S_openSlot 48 = .ok (.getfield 22, 3) := by decide +kernel
theorem d_S_openSlot_51 : decode b_S_openSlot 51 = .ok (.getfield 99, 3) := by decide +kernel
theorem d_S_openSlot_54 : decode b_S_openSlot 54 = .ok (.aload_n 0, 1) := by decide +kernel
theorem d_S_openSlot_55 : decode b_S_openSlot 55 = .ok (.getfield 22, 3) := by decide +kernel
theorem d_S_openSlot_58 : decode b_S_openSlot 58 = .ok (.iload_n 1, 1) := by decide +kernel
theorem d_S_openSlot_59 : decode b_S_openSlot 59 = .ok (.iload_n 3, 1) := by decide +kernel
theorem d_S_openSlot_60 : decode b_S_openSlot 60 = .ok (.invokevirtual 102, 3) := by decide +kernel
theorem d_S_openSlot_63 : decode b_S_openSlot 63 = .ok (.iaload, 1) := by decide +kernel
theorem d_S_openSlot_64 : decode b_S_openSlot 64 = .ok (.istore 4, 2) := by decide +kernel
theorem d_S_openSlot_66 : decode b_S_openSlot 66 = .ok (.iload 4, 2) := by decide +kernel
theorem d_S_openSlot_68 : decode b_S_openSlot 68 = .ok (.ifCond .eq 14, 3) := by decide +kernel
theorem d_S_openSlot_71 : decode b_S_openSlot 71 = .ok (.aload_n 0, 1) := by decide +kernel
theorem d_S_openSlot_72 : decode b_S_openSlot 72 = .ok (.iload_n 1, 1) := by decide +kernel
theorem d_S_openSlot_73 : decode b_S_openSlot 73 = .ok (.iload_n 3, 1) := by decide +kernel
theorem d_S_openSlot_74 : decode b_S_openSlot 74 = .ok (.iload 4, 2) := by decide +kernel
theorem d_S_openSlot_76 : decode b_S_openSlot 76 = .ok (.invokestatic 106, 3) := by decide +kernel
theorem d_S_openSlot_79 : decode b_S_openSlot 79 = .ok (.invokevirtual 109, 3) := by decide +kernel
theorem d_S_openSlot_82 : decode b_S_openSlot 82 = .ok (.iinc 3 1, 3) := by decide +kernel
theorem d_S_openSlot_85 : decode b_S_openSlot 85 = .ok (.goto (-43), 3) := by decide +kernel
theorem d_S_openSlot_88 : decode b_S_openSlot 88 = .ok (.aload_n 0, 1) := by decide +kernel
theorem d_S_openSlot_89 : decode b_S_openSlot 89 = .ok (.getfield 22, 3) := by decide +kernel
theorem d_S_openSlot_92 : decode b_S_openSlot 92 = .ok (.getfield 113, 3) := by decide +kernel
theorem d_S_openSlot_95 : decode b_S_openSlot 95 = .ok (.iload_n 1, 1) := by decide +kernel
theorem d_S_openSlot_96 : decode b_S_openSlot 96 = .ok (.iaload, 1) := by decide +kernel
theorem d_S_openSlot_97 : decode b_S_openSlot 97 = .ok (.istore_n 3, 1) := by decide +kernel
theorem d_S_openSlot_98 : decode b_S_openSlot 98 = .ok (.iload_n 3, 1) := by decide +kernel
theorem d_S_openSlot_99 : decode b_S_openSlot 99 = .ok (.iconst (-1), 1) := by decide +kernel
theorem d_S_openSlot_100 : decode b_S_openSlot 100 = .ok (.if_icmp .eq 45, 3) := by decide +kernel
theorem d_S_openSlot_103 : decode b_S_openSlot 103 = .ok (.aload_n 0, 1) := by decide +kernel
theorem d_S_openSlot_104 : decode b_S_openSlot 104 = .ok (.getfield 9, 3) := by decide +kernel
theorem d_S_openSlot_107 : decode b_S_openSlot 107 = .ok (.iload_n 1, 1) := by decide +kernel
theorem d_S_openSlot_108 : decode b_S_openSlot 108 = .ok (.dup2, 1) := by decide +kernel
theorem d_S_openSlot_109 : decode b_S_openSlot 109 = .ok (.laload, 1) := by decide +kernel
theorem d_S_openSlot_110 : decode b_S_openSlot 110 = .ok (.aload_n 0, 1) := by decide +kernel
theorem d_S_openSlot_111 : decode b_S_openSlot 111 = .ok (.getfield 26, 3) := by decide +kernel
theorem d_S_openSlot_114 : decode b_S_openSlot 114 = .ok (.getfield 116, 3) := by decide +kernel
theorem d_S_openSlot_117 : decode b_S_openSlot 117 = .ok (.iload_n 3, 1) := by decide +kernel
theorem d_S_openSlot_118 : decode b_S_openSlot 118 = .ok (.iaload, 1) := by decide +kernel
theorem d_S_openSlot_119 : decode b_S_openSlot 119 = .ok (.invokestatic 119, 3) := by decide +kernel
theorem d_S_openSlot_122 : decode b_S_openSlot 122 = .ok (.land, 1) := by decide +kernel
theorem d_S_openSlot_123 : decode b_S_openSlot 123 = .ok (.lastore, 1) := by decide +kernel
theorem d_S_openSlot_124 : decode b_S_openSlot 124 = .ok (.aload_n 0, 1) := by decide +kernel
theorem d_S_openSlot_125 : decode b_S_openSlot 125 = .ok (.getfield 15, 3) := by decide +kernel
theorem d_S_openSlot_128 : decode b_S_openSlot 128 = .ok (.iload_n 1, 1) := by decide +kernel
theorem d_S_openSlot_129 : decode b_S_openSlot 129 = .ok (.dup2, 1) := by decide +kernel
theorem d_S_openSlot_130 : decode b_S_openSlot 130 = .ok (.laload, 1) := by decide +kernel
theorem d_S_openSlot_131 : decode b_S_openSlot 131 = .ok (.aload_n 0, 1) := by decide +kernel
theorem d_S_openSlot_132 : decode b_S_openSlot 132 = .ok (.getfield 26, 3) := by decide +kernel
theorem d_S_openSlot_135 : decode b_S_openSlot 135 = .ok (.getfield 116, 3) := by decide +kernel
theorem d_S_openSlot_138 : decode b_S_openSlot 138 = .ok (.iload_n 3, 1) := by decide +kernel
theorem d_S_openSlot_139 : decode b_S_openSlot 139 = .ok (.iaload, 1) := by decide +kernel
theorem d_S_openSlot_140 : decode b_S_openSlot 140 = .ok (.invokestatic 123, 3) := by decide +kernel
theorem d_S_openSlot_143 : decode b_S_openSlot 143 = .ok (.land, 1) := by decide +kernel
theorem d_S_openSlot_144 : decode b_S_openSlot 144 = .ok (.lastore, 1) := by decide +kernel
theorem d_S_openSlot_145 : decode b_S_openSlot 145 = .ok (.return_, 1) := by decide +kernel
theorem d_S_countAtStart_0 : decode b_S_countAtStart 0 = .ok (.aload_n 0, 1) := by decide +kernel
theorem d_S_countAtStart_1 : decode b_S_countAtStart 1 = .ok (.iload_n 1, 1) := by decide +kernel
theorem d_S_countAtStart_2 : decode b_S_countAtStart 2 = .ok (.invokevirtual 66, 3) := by decide +kernel
theorem d_S_countAtStart_5 : decode b_S_countAtStart 5 = .ok (.aload_n 0, 1) := by decide +kernel
theorem d_S_countAtStart_6 : decode b_S_countAtStart 6 = .ok (.getfield 9, 3) := by decide +kernel
theorem d_S_countAtStart_9 : decode b_S_countAtStart 9 = .ok (.iload_n 1, 1) := by decide +kernel
theorem d_S_countAtStart_10 : decode b_S_countAtStart 10 = .ok (.laload, 1) := by decide +kernel
theorem d_S_countAtStart_11 : decode b_S_countAtStart 11 = .ok (.invokestatic 70, 3) := by decide +kernel
theorem d_S_countAtStart_14 : decode b_S_countAtStart 14 = .ok (.aload_n 0, 1) := by decide +kernel
theorem d_S_countAtStart_15 : decode b_S_countAtStart 15 = .ok (.getfield 15, 3) := by decide +kernel
theorem d_S_countAtStart_18 : decode b_S_countAtStart 18 = .ok (.iload_n 1, 1) := by decide +kernel
theorem d_S_countAtStart_19 : decode b_S_countAtStart 19 = .ok (.laload, 1) := by decide +kernel
theorem d_S_countAtStart_20 : decode b_S_countAtStart 20 = .ok (.invokestatic 70, 3) := by decide +kernel
theorem d_S_countAtStart_23 : decode b_S_countAtStart 23 = .ok (.iadd, 1) := by decide +kernel
theorem d_S_countAtStart_24 : decode b_S_countAtStart 24 = .ok (.ireturn, 1) := by decide +kernel
theorem d_S_clearSlots_0 : decode b_S_clearSlots 0 = .ok (.aload_n 0, 1) := by decide +kernel
theorem d_S_clearSlots_1 : decode b_S_clearSlots 1 = .ok (.lconst 0, 1) := by decide +kernel
theorem d_S_clearSlots_2 : decode b_S_clearSlots 2 = .ok (.putfield 76, 3) := by decide +kernel
theorem d_S_clearSlots_5 : decode b_S_clearSlots 5 = .ok (.aload_n 0, 1) := by decide +kernel
theorem d_S_clearSlots_6 : decode b_S_clearSlots 6 = .ok (.lconst 0, 1) := by decide +kernel
theorem d_S_clearSlots_7 : decode b_S_clearSlots 7 = .ok (.putfield 80, 3) := by decide +kernel
theorem d_S_clearSlots_10 : decode b_S_clearSlots 10 = .ok (.iconst 0, 1) := by decide +kernel
theorem d_S_clearSlots_11 : decode b_S_clearSlots 11 = .ok (.istore_n 1, 1) := by decide +kernel
theorem d_S_clearSlots_12 : decode b_S_clearSlots 12 = .ok (.iload_n 1, 1) := by decide +kernel
theorem d_S_clearSlots_13 : decode b_S_clearSlots 13 = .ok (.aload_n 0, 1) := by decide +kernel
theorem d_S_clearSlots_14 : decode b_S_clearSlots 14 = .ok (.getfield 22, 3) := by decide +kernel
theorem d_S_clearSlots_17 : decode b_S_clearSlots 17 = .ok (.getfield 83, 3) := by decide +kernel
theorem d_S_clearSlots_20 : decode b_S_clearSlots 20 = .ok (.if_icmp .ge 21, 3) := by decide +kernel
theorem d_S_clearSlots_23 : decode b_S_clearSlots 23 = .ok (.aload_n 0, 1) := by decide +kernel
theorem d_S_clearSlots_24 : decode b_S_clearSlots 24 = .ok (.getfield 18, 3) := by decide +kernel
theorem d_S_clearSlots_27 : decode b_S_clearSlots 27 = .ok (.iload_n 1, 1) := by decide +kernel
theorem d_S_clearSlots_28 : decode b_S_clearSlots 28 = .ok (.iconst (-1), 1) := by decide +kernel
theorem d_S_clearSlots_29 : decode b_S_clearSlots 29 = .ok (.iastore, 1) := by decide +kernel
theorem d_S_clearSlots_30 : decode b_S_clearSlots 30 = .ok (.aload_n 0, 1) := by decide +kernel
theorem d_S_clearSlots_31 : decode b_S_clearSlots 31 = .ok (.iload_n 1, 1) := by decide +kernel
theorem d_S_clearSlots_32 : decode b_S_clearSlots 32 = .ok (.invokevirtual 66, 3) := by decide +kernel
theorem d_S_clearSlots_35 : decode b_S_clearSlots 35 = .ok (.iinc 1 1, 3) := by decide +kernel
theorem d_S_clearSlots_38 : decode b_S_clearSlots 38 = .ok (.goto (-26), 3) := by decide +kernel
theorem d_S_clearSlots_41 : decode b_S_clearSlots 41 = .ok (.return_, 1) := by decide +kernel
theorem d_S_lowestBit_0 : decode b_S_lowestBit 0 = .ok (.lload_n 0, 1) := by decide +kernel
theorem d_S_lowestBit_1 : decode b_S_lowestBit 1 = .ok (.lload_n 0, 1) := by decide +kernel
theorem d_S_lowestBit_2 : decode b_S_lowestBit 2 = .ok (.lneg, 1) := by decide +kernel
theorem d_S_lowestBit_3 : decode b_S_lowestBit 3 = .ok (.land, 1) := by decide +kernel
theorem d_S_lowestBit_4 : decode b_S_lowestBit 4 = .ok (.lconst 1, 1) := by decide +kernel
theorem d_S_lowestBit_5 : decode b_S_lowestBit 5 = .ok (.lsub, 1) := by decide +kernel
theorem d_S_lowestBit_6 : decode b_S_lowestBit 6 = .ok (.invokestatic 70, 3) := by decide +kernel
theorem d_S_lowestBit_9 : decode b_S_lowestBit 9 = .ok (.ireturn, 1) := by decide +kernel
theorem d_S_takeFilling_0 : decode b_S_takeFilling 0 = .ok (.aload_n 0, 1) := by decide +kernel
theorem d_S_takeFilling_1 : decode b_S_takeFilling 1 = .ok (.dup, 1) := by decide +kernel
theorem d_S_takeFilling_2 : decode b_S_takeFilling 2 = .ok (.getfield 48, 3) := by decide +kernel
theorem d_S_takeFilling_5 : decode b_S_takeFilling 5 = .ok (.iconst 1, 1) := by decide +kernel
theorem d_S_takeFilling_6 : decode b_S_takeFilling 6 = .ok (.iadd, 1) := by decide +kernel
theorem d_S_takeFilling_7 : decode b_S_takeFilling 7 = .ok (.putfield 48, 3) := by decide +kernel
theorem d_S_takeFilling_10 : decode b_S_takeFilling 10 = .ok (.aload_n 0, 1) := by decide +kernel
theorem d_S_takeFilling_11 : decode b_S_takeFilling 11 = .ok (.getfield 51, 3) := by decide +kernel
theorem d_S_takeFilling_14 : decode b_S_takeFilling 14 = .ok (.aload_n 0, 1) := by decide +kernel
theorem d_S_takeFilling_15 : decode b_S_takeFilling 15 = .ok (.getfield 30, 3) := by decide +kernel
theorem d_S_takeFilling_18 : decode b_S_takeFilling 18 = .ok (.getfield 149, 3) := by decide +kernel
theorem d_S_takeFilling_21 : decode b_S_takeFilling 21 = .ok (.if_icmp .le 18, 3) := by decide +kernel
theorem d_S_takeFilling_24 : decode b_S_takeFilling 24 = .ok (.aload_n 0, 1) := by decide +kernel
theorem d_S_takeFilling_25 : decode b_S_takeFilling 25 = .ok (.getfield 30, 3) := by decide +kernel
theorem d_S_takeFilling_28 : decode b_S_takeFilling 28 = .ok (.aload_n 0, 1) := by decide +kernel
theorem d_S_takeFilling_29 : decode b_S_takeFilling 29 = .ok (.getfield 18, 3) := by decide +kernel
theorem d_S_takeFilling_32 : decode b_S_takeFilling 32 = .ok (.aload_n 0, 1) := by decide +kernel
theorem d_S_takeFilling_33 : decode b_S_takeFilling 33 = .ok (.getfield 51, 3) := by decide +kernel
theorem d_S_takeFilling_36 : decode b_S_takeFilling 36 = .ok (.invokevirtual 152, 3) := by decide +kernel
theorem d_S_takeFilling_39 : decode b_S_takeFilling 39 = .ok (.aload_n 0, 1) := by decide +kernel
theorem d_S_takeFilling_40 : decode b_S_takeFilling 40 = .ok (.getfield 38, 3) := by decide +kernel
theorem d_S_takeFilling_43 : decode b_S_takeFilling 43 = .ok (.ireturn, 1) := by decide +kernel
theorem d_S_slotWithFewest_0 : decode b_S_slotWithFewest 0 = .ok (.bipush 81, 2) := by decide +kernel
theorem d_S_slotWithFewest_2 : decode b_S_slotWithFewest 2 = .ok (.istore_n 2, 1) := by decide +kernel
theorem d_S_slotWithFewest_3 : decode b_S_slotWithFewest 3 = .ok (.iconst (-1), 1) := by decide +kernel
theorem d_S_slotWithFewest_4 : decode b_S_slotWithFewest 4 = .ok (.istore_n 3, 1) := by decide +kernel
theorem d_S_slotWithFewest_5 : decode b_S_slotWithFewest 5 = .ok (.iload_n 1, 1) := by decide +kernel
theorem d_S_slotWithFewest_6 : decode b_S_slotWithFewest 6 = .ok (.bipush 24, 2) := by decide +kernel
theorem d_S_slotWithFewest_8 : decode b_S_slotWithFewest 8 = .ok (.imul, 1) := by decide +kernel
theorem d_S_slotWithFewest_9 : decode b_S_slotWithFewest 9 = .ok (.istore 4, 2) := by decide +kernel
theorem d_S_slotWithFewest_11 : decode b_S_slotWithFewest 11 = .ok (.iconst 0, 1) := by decide +kernel
theorem d_S_slotWithFewest_12 : decode b_S_slotWithFewest 12 = .ok (.istore 5, 2) := by decide +kernel
theorem d_S_slotWithFewest_14 : decode b_S_slotWithFewest 14 = .ok (.iload 5, 2) := by decide +kernel
theorem d_S_slotWithFewest_16 : decode b_S_slotWithFewest 16 = .ok (.aload_n 0, 1) := by decide +kernel
theorem d_S_slotWithFewest_17 : decode b_S_slotWithFewest 17 = .ok (.getfield 22, 3) := by decide +kernel
theorem d_S_slotWithFewest_20 : decode b_S_slotWithFewest 20 = .ok (.getfield 83, 3) := by decide +kernel
theorem d_S_slotWithFewest_23 : decode b_S_slotWithFewest 23 = .ok (.if_icmp .ge 83, 3) := by decide +kernel
theorem d_S_slotWithFewest_26 : decode b_S_slotWithFewest 26 = .ok (.iload_n 2, 1) := by decide +kernel
theorem d_S_slotWithFewest_27 : decode b_S_slotWithFewest 27 = .ok (.ifCond .le 79, 3) := by decide +kernel
theorem d_S_slotWithFewest_30 : decode b_S_slotWithFewest 30 = .ok (.aload_n 0, 1) := by decide +kernel
theorem d_S_slotWithFewest_31 : decode b_S_slotWithFewest 31 = .ok (.getfield 18, 3) := by decide +kernel
theorem d_S_slotWithFewest_34 : decode b_S_slotWithFewest 34 = .ok (.iload 5, 2) := by decide +kernel
theorem d_S_slotWithFewest_36 : decode b_S_slotWithFewest 36 = .ok (.iaload, 1) := by decide +kernel
theorem d_S_slotWithFewest_37 : decode b_S_slotWithFewest 37 = .ok (.iconst (-1), 1) := by decide +kernel
theorem d_S_slotWithFewest_38 : decode b_S_slotWithFewest 38 = .ok (.if_icmp .ne 62, 3) := by decide +kernel
theorem d_S_slotWithFewest_41 : decode b_S_slotWithFewest 41 = .ok (.aload_n 0, 1) := by decide +kernel
theorem d_S_slotWithFewest_42 : decode b_S_slotWithFewest 42 = .ok (.getfield 9, 3) := by decide +kernel
theorem d_S_slotWithFewest_45 : decode b_S_slotWithFewest 45 = .ok (.iload 4, 2) := by decide +kernel
theorem d_S_slotWithFewest_47 : decode b_S_slotWithFewest 47 = .ok (.iload 5, 2) := by decide +kernel
theorem d_S_slotWithFewest_49 : decode b_S_slotWithFewest 49 = .ok (.iadd, 1) := by decide +kernel
theorem d_S_slotWithFewest_50 : decode b_S_slotWithFewest 50 = .ok (.laload, 1) := by decide +kernel
theorem d_S_slotWithFewest_51 : decode b_S_slotWithFewest 51 = .ok (.aload_n 0, 1) := by decide +kernel
theorem d_S_slotWithFewest_52 : decode b_S_slotWithFewest 52 = .ok (.getfield 76, 3) := by decide +kernel
theorem d_S_slotWithFewest_55 : decode b_S_slotWithFewest 55 = .ok (.ldc2_w 140, 3) := by decide +kernel
theorem d_S_slotWithFewest_58 : decode b_S_slotWithFewest 58 = .ok (.lxor, 1) := by decide +kernel
theorem d_S_slotWithFewest_59 : decode b_S_slotWithFewest 59 = .ok (.land, 1) := by decide +kernel
theorem d_S_slotWithFewest_60 : decode b_S_slotWithFewest 60 = .ok (.invokestatic 70, 3) := by decide +kernel
theorem d_S_slotWithFewest_63 : decode b_S_slotWithFewest 63 = .ok (.aload_n 0, 1) := by decide +kernel
theorem d_S_slotWithFewest_64 : decode b_S_slotWithFewest 64 = .ok (.getfield 15, 3) := by decide +kernel
theorem d_S_slotWithFewest_67 : decode b_S_slotWithFewest 67 = .ok (.iload 4, 2) := by decide +kernel
theorem d_S_slotWithFewest_69 : decode b_S_slotWithFewest 69 = .ok (.iload 5, 2) := by decide +kernel
theorem d_S_slotWithFewest_71 : decode b_S_slotWithFewest 71 = .ok (.iadd, 1) := by decide +kernel
theorem d_S_slotWithFewest_72 : decode b_S_slotWithFewest 72 = .ok (.laload, 1) := by decide +kernel
theorem d_S_slotWithFewest_73 : decode b_S_slotWithFewest 73 = .ok (.aload_n 0, 1) := by decide +kernel
theorem d_S_slotWithFewest_74 : decode b_S_slotWithFewest 74 = .ok (.getfield 80, 3) := by decide +kernel
theorem d_S_slotWithFewest_77 : decode b_S_slotWithFewest 77 = .ok (.ldc2_w 140, 3) := by decide +kernel
theorem d_S_slotWithFewest_80 : decode b_S_slotWithFewest 80 = .ok (.lxor, 1) := by decide +kernel
theorem d_S_slotWithFewest_81 : decode b_S_slotWithFewest 81 = .ok (.land, 1) := by decide +kernel
theorem d_S_slotWithFewest_82 : decode b_S_slotWithFewest 82 = .ok (.invokestatic 70, 3) := by decide +kernel
theorem d_S_slotWithFewest_85 : decode b_S_slotWithFewest 85 = .ok (.iadd, 1) := by decide +kernel
theorem d_S_slotWithFewest_86 : decode b_S_slotWithFewest 86 = .ok (.istore 6, 2) := by decide +kernel
theorem d_S_slotWithFewest_88 : decode b_S_slotWithFewest 88 = .ok (.iload 6, 2) := by decide +kernel
theorem d_S_slotWithFewest_90 : decode b_S_slotWithFewest 90 = .ok (.iload_n 2, 1) := by decide +kernel
theorem d_S_slotWithFewest_91 : decode b_S_slotWithFewest 91 = .ok (.if_icmp .ge 9, 3) := by decide +kernel
theorem d_S_slotWithFewest_94 : decode b_S_slotWithFewest 94 = .ok (.iload 6, 2) := by decide +kernel
theorem d_S_slotWithFewest_96 : decode b_S_slotWithFewest 96 = .ok (.istore_n 2, 1) := by decide +kernel
theorem d_S_slotWithFewest_97 : decode b_S_slotWithFewest 97 = .ok (.iload 5, 2) := by decide +kernel
theorem d_S_slotWithFewest_99 : decode b_S_slotWithFewest 99 = .ok (.istore_n 3, 1) := by decide +kernel
theorem d_S_slotWithFewest_100 : decode b_S_slotWithFewest 100 = .ok (.iinc 5 1, 3) := by decide +kernel
theorem d_S_slotWithFewest_103 : decode b_S_slotWithFewest 103 = .ok (.goto (-89), 3) := by decide +kernel
theorem d_S_slotWithFewest_106 : decode b_S_slotWithFewest 106 = .ok (.iload_n 3, 1) := by decide +kernel
theorem d_S_slotWithFewest_107 : decode b_S_slotWithFewest 107 = .ok (.ireturn, 1) := by decide +kernel
theorem d_S_narrowCrossing_0 : decode b_S_narrowCrossing 0 = .ok (.iload_n 1, 1) := by decide +kernel
theorem d_S_narrowCrossing_1 : decode b_S_narrowCrossing 1 = .ok (.bipush 24, 2) := by decide +kernel
theorem d_S_narrowCrossing_3 : decode b_S_narrowCrossing 3 = .ok (.imul, 1) := by decide +kernel
theorem d_S_narrowCrossing_4 : decode b_S_narrowCrossing 4 = .ok (.istore 4, 2) := by decide +kernel
theorem d_S_narrowCrossing_6 : decode b_S_narrowCrossing 6 = .ok (.iload 4, 2) := by decide +kernel
theorem d_S_narrowCrossing_8 : decode b_S_narrowCrossing 8 = .ok (.bipush 24, 2) := by decide +kernel
theorem d_S_narrowCrossing_10 : decode b_S_narrowCrossing 10 = .ok (.iadd, 1) := by decide +kernel
theorem d_S_narrowCrossing_11 : decode b_S_narrowCrossing 11 = .ok (.istore 5, 2) := by decide +kernel
theorem d_S_narrowCrossing_13 : decode b_S_narrowCrossing 13 = .ok (.aload_n 0, 1) := by decide +kernel
theorem d_S_narrowCrossing_14 : decode b_S_narrowCrossing 14 = .ok (.getfield 9, 3) := by decide +kernel
theorem d_S_narrowCrossing_17 : decode b_S_narrowCrossing 17 = .ok (.iload 4, 2) := by decide +kernel
theorem d_S_narrowCrossing_19 : decode b_S_narrowCrossing 19 = .ok (.aload_n 0, 1) := by decide +kernel
theorem d_S_narrowCrossing_20 : decode b_S_narrowCrossing 20 = .ok (.getfield 9, 3) := by decide +kernel
theorem d_S_narrowCrossing_23 : decode b_S_narrowCrossing 23 = .ok (.iload 5, 2) := by decide +kernel
theorem d_S_narrowCrossing_25 : decode b_S_narrowCrossing 25 = .ok (.aload_n 0, 1) := by decide +kernel
theorem d_S_narrowCrossing_26 : decode b_S_narrowCrossing 26 = .ok (.getfield 22, 3) := by decide +kernel
theorem d_S_narrowCrossing_29 : decode b_S_narrowCrossing 29 = .ok (.getfield 83, 3) := by decide +kernel
theorem d_S_narrowCrossing_32 : decode b_S_narrowCrossing 32 = .ok (.invokestatic 166, 3) := by decide +kernel
theorem d_S_narrowCrossing_35 : decode b_S_narrowCrossing 35 = .ok (.aload_n 0, 1) := by decide +kernel
theorem d_S_narrowCrossing_36 : decode b_S_narrowCrossing 36 = .ok (.getfield 15, 3) := by decide +kernel
theorem d_S_narrowCrossing_39 : decode b_S_narrowCrossing 39 = .ok (.iload 4, 2) := by decide +kernel
theorem d_S_narrowCrossing_41 : decode b_S_narrowCrossing 41 = .ok (.aload_n 0, 1) := by decide +kernel
theorem d_S_narrowCrossing_42 : decode b_S_narrowCrossing 42 = .ok (.getfield 15, 3) := by decide +kernel
theorem d_S_narrowCrossing_45 : decode b_S_narrowCrossing 45 = .ok (.iload 5, 2) := by decide +kernel
theorem d_S_narrowCrossing_47 : decode b_S_narrowCrossing 47 = .ok (.aload_n 0, 1) := by decide +kernel
theorem d_S_narrowCrossing_48 : decode b_S_narrowCrossing 48 = .ok (.getfield 22, 3) := by decide +kernel
theorem d_S_narrowCrossing_51 : decode b_S_narrowCrossing 51 = .ok (.getfield 83, 3) := by decide +kernel
theorem d_S_narrowCrossing_54 : decode b_S_narrowCrossing 54 = .ok (.invokestatic 166, 3) := by decide +kernel
theorem d_S_narrowCrossing_57 : decode b_S_narrowCrossing 57 = .ok (.iconst 1, 1) := by decide +kernel
theorem d_S_narrowCrossing_58 : decode b_S_narrowCrossing 58 = .ok (.aload_n 0, 1) := by decide +kernel
theorem d_S_narrowCrossing_59 : decode b_S_narrowCrossing 59 = .ok (.getfield 22, 3) := by decide +kernel
theorem d_S_narrowCrossing_62 : decode b_S_narrowCrossing 62 = .ok (.getfield 172, 3) := by decide +kernel
theorem d_S_narrowCrossing_65 : decode b_S_narrowCrossing 65 = .ok (.iload_n 2, 1) := by decide +kernel
theorem d_S_narrowCrossing_66 : decode b_S_narrowCrossing 66 = .ok (.iaload, 1) := by decide +kernel
theorem d_S_narrowCrossing_67 : decode b_S_narrowCrossing 67 = .ok (.isub, 1) := by decide +kernel
theorem d_S_narrowCrossing_68 : decode b_S_narrowCrossing 68 = .ok (.istore 6, 2) := by decide +kernel
theorem d_S_narrowCrossing_70 : decode b_S_narrowCrossing 70 = .ok (.iconst 0, 1) := by decide +kernel
theorem d_S_narrowCrossing_71 : decode b_S_narrowCrossing 71 = .ok (.istore 7, 2) := by decide +kernel
theorem d_S_narrowCrossing_73 : decode b_S_narrowCrossing 73 = .ok (.iload 7, 2) := by decide +kernel
theorem d_S_narrowCrossing_75 : decode b_S_narrowCrossing 75 = .ok (.aload_n 0, 1) := by decide +kernel
theorem d_S_narrowCrossing_76 : decode b_S_narrowCrossing 76 = .ok (.getfield 22, 3) := by decide +kernel
theorem d_S_narrowCrossing_79 : decode b_S_narrowCrossing 79 = .ok (.getfield 88, 3) := by decide +kernel
theorem d_S_narrowCrossing_82 : decode b_S_narrowCrossing 82 = .ok (.iload_n 2, 1) := by decide +kernel
theorem d_S_narrowCrossing_83 : decode b_S_narrowCrossing 83 = .ok (.iaload, 1) := by decide +kernel
theorem d_S_narrowCrossing_84 : decode b_S_narrowCrossing 84 = .ok (.if_icmp .ge 77, 3) := by decide +kernel
theorem d_S_narrowCrossing_87 : decode b_S_narrowCrossing 87 = .ok (.aload_n 0, 1) := by decide +kernel
theorem d_S_narrowCrossing_88 : decode b_S_narrowCrossing 88 = .ok (.getfield 22, 3) := by decide +kernel
theorem d_S_narrowCrossing_91 : decode b_S_narrowCrossing 91 = .ok (.iload_n 2, 1) := by decide +kernel
theorem d_S_narrowCrossing_92 : decode b_S_narrowCrossing 92 = .ok (.iload 7, 2) := by decide +kernel
theorem d_S_narrowCrossing_94 : decode b_S_narrowCrossing 94 = .ok (.invokevirtual 102, 3) := by decide +kernel
theorem d_S_narrowCrossing_97 : decode b_S_narrowCrossing 97 = .ok (.istore 8, 2) := by decide +kernel
theorem d_S_narrowCrossing_99 : decode b_S_narrowCrossing 99 = .ok (.aload_n 0, 1) := by decide +kernel
theorem d_S_narrowCrossing_100 : decode b_S_narrowCrossing 100 = .ok (.getfield 22, 3) := by decide +kernel
theorem d_S_narrowCrossing_103 : decode b_S_narrowCrossing 103 = .ok (.iload 8, 2) := by decide +kernel
theorem d_S_narrowCrossing_105 : decode b_S_narrowCrossing 105 = .ok (.iload 6, 2) := by decide +kernel
theorem d_S_narrowCrossing_107 : decode b_S_narrowCrossing 107 = .ok (.invokevirtual 175, 3) := by decide +kernel
theorem d_S_narrowCrossing_110 : decode b_S_narrowCrossing 110 = .ok (.istore 9, 2) := by decide +kernel
theorem d_S_narrowCrossing_112 : decode b_S_narrowCrossing 112 = .ok (.iload 9, 2) := by decide +kernel
theorem d_S_narrowCrossing_114 : decode b_S_narrowCrossing 114 = .ok (.iconst (-1), 1) := by decide +kernel
theorem d_S_narrowCrossing_115 : decode b_S_narrowCrossing 115 = .ok (.if_icmp .eq 40, 3) := by decide +kernel
theorem d_S_narrowCrossing_118 : decode b_S_narrowCrossing 118 = .ok (.aload_n 0, 1) := by decide +kernel
theorem d_S_narrowCrossing_119 : decode b_S_narrowCrossing 119 = .ok (.getfield 22, 3) := by decide +kernel
theorem d_S_narrowCrossing_122 : decode b_S_narrowCrossing 122 = .ok (.iload 8, 2) := by decide +kernel
theorem d_S_narrowCrossing_124 : decode b_S_narrowCrossing 124 = .ok (.iload 6, 2) := by decide +kernel
theorem d_S_narrowCrossing_126 : decode b_S_narrowCrossing 126 = .ok (.invokevirtual 178, 3) := by decide +kernel
theorem d_S_narrowCrossing_129 : decode b_S_narrowCrossing 129 = .ok (.istore 10, 2) := by decide +kernel
theorem d_S_narrowCrossing_131 : decode b_S_narrowCrossing 131 = .ok (.aload_n 0, 1) := by decide +kernel
theorem d_S_narrowCrossing_132 : decode b_S_narrowCrossing 132 = .ok (.iload 5, 2) := by decide +kernel
theorem d_S_narrowCrossing_134 : decode b_S_narrowCrossing 134 = .ok (.iload 9, 2) := by decide +kernel
theorem d_S_narrowCrossing_136 : decode b_S_narrowCrossing 136 = .ok (.iadd, 1) := by decide +kernel
theorem d_S_narrowCrossing_137 : decode b_S_narrowCrossing 137 = .ok (.iload 10, 2) := by decide +kernel
theorem d_S_narrowCrossing_139 : decode b_S_narrowCrossing 139 = .ok (.aload_n 0, 1) := by decide +kernel
theorem d_S_narrowCrossing_140 : decode b_S_narrowCrossing 140 = .ok (.getfield 26, 3) := by decide +kernel
theorem d_S_narrowCrossing_143 : decode b_S_narrowCrossing 143 = .ok (.iload_n 3, 1) := by decide +kernel
theorem d_S_narrowCrossing_144 : decode b_S_narrowCrossing 144 = .ok (.iload 7, 2) := by decide +kernel
theorem d_S_narrowCrossing_146 : decode b_S_narrowCrossing 146 = .ok (.invokevirtual 181, 3) := by decide +kernel
theorem d_S_narrowCrossing_149 : decode b_S_narrowCrossing 149 = .ok (.invokestatic 106, 3) := by decide +kernel
theorem d_S_narrowCrossing_152 : decode b_S_narrowCrossing 152 = .ok (.invokevirtual 109, 3) := by decide +kernel
theorem d_S_narrowCrossing_155 : decode b_S_narrowCrossing 155 = .ok (.iinc 7 1, 3) := by decide +kernel
theorem d_S_narrowCrossing_158 : decode b_S_narrowCrossing 158 = .ok (.goto (-85), 3) := by decide +kernel
theorem d_S_narrowCrossing_161 : decode b_S_narrowCrossing 161 = .ok (.return_, 1) := by decide +kernel
theorem d_X_black_0 : decode b_X_black 0 = .ok (.aload_n 0, 1) := by decide +kernel
theorem d_X_black_1 : decode b_X_black 1 = .ok (.getfield 18, 3) := by decide +kernel
theorem d_X_black_4 : decode b_X_black 4 = .ok (.iload_n 1, 1) := by decide +kernel
theorem d_X_black_5 : decode b_X_black 5 = .ok (.iload_n 2, 1) := by decide +kernel
theorem d_X_black_6 : decode b_X_black 6 = .ok (.invokevirtual 47, 3) := by decide +kernel
theorem d_X_black_9 : decode b_X_black 9 = .ok (.istore 4, 2) := by decide +kernel
theorem d_X_black_11 : decode b_X_black 11 = .ok (.iload 4, 2) := by decide +kernel
theorem d_X_black_13 : decode b_X_black 13 = .ok (.iconst (-1), 1) := by decide +kernel
theorem d_X_black_14 : decode b_X_black 14 = .ok (.if_icmp .eq 17, 3) := by decide +kernel
theorem d_X_black_17 : decode b_X_black 17 = .ok (.aload_n 0, 1) := by decide +kernel
theorem d_X_black_18 : decode b_X_black 18 = .ok (.getfield 18, 3) := by decide +kernel
theorem d_X_black_21 : decode b_X_black 21 = .ok (.getfield 51, 3) := by decide +kernel
theorem d_X_black_24 : decode b_X_black 24 = .ok (.iload 4, 2) := by decide +kernel
theorem d_X_black_26 : decode b_X_black 26 = .ok (.baload, 1) := by decide +kernel
theorem d_X_black_27 : decode b_X_black 27 = .ok (.iload_n 3, 1) := by decide +kernel
theorem d_X_black_28 : decode b_X_black 28 = .ok (.if_icmp .ne 5, 3) := by decide +kernel
theorem d_X_black_31 : decode b_X_black 31 = .ok (.iconst 0, 1) := by decide +kernel
theorem d_X_black_32 : decode b_X_black 32 = .ok (.ireturn, 1) := by decide +kernel
theorem d_X_black_33 : decode b_X_black 33 = .ok (.aload_n 0, 1) := by decide +kernel
theorem d_X_black_34 : decode b_X_black 34 = .ok (.getfield 18, 3) := by decide +kernel
theorem d_X_black_37 : decode b_X_black 37 = .ok (.iload 4, 2) := by decide +kernel
theorem d_X_black_39 : decode b_X_black 39 = .ok (.iload_n 3, 1) := by decide +kernel
theorem d_X_black_40 : decode b_X_black 40 = .ok (.invokevirtual 55, 3) := by decide +kernel
theorem d_X_black_43 : decode b_X_black 43 = .ok (.aload_n 0, 1) := by decide +kernel
theorem d_X_black_44 : decode b_X_black 44 = .ok (.getfield 34, 3) := by decide +kernel
