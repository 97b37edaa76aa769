theorem d_G_join_96 : decode b_G_join 96 = .ok (.iconst 1, 1) := by decide +kernel
theorem d_G_join_97 : decode b_G_join 97 = .ok (.ireturn, 1) := by decide +kernel
theorem d_G_countParts_0 : decode b_G_countParts 0 = .ok (.iconst 0, 1) := by decide +kernel
theorem d_G_countParts_1 : decode b_G_countParts 1 = .ok (.istore_n 1, 1) := by decide +kernel
theorem d_G_countParts_2 : decode b_G_countParts 2 = .ok (.iconst 0, 1) := by decide +kernel
theorem d_G_countParts_3 : decode b_G_countParts 3 = .ok (.istore_n 2, 1) := by decide +kernel
theorem d_G_countParts_4 : decode b_G_countParts 4 = .ok (.iload_n 2, 1) := by decide +kernel
theorem d_G_countParts_5 : decode b_G_countParts 5 = .ok (.aload_n 0, 1) := by decide +kernel
theorem d_G_countParts_6 : decode b_G_countParts 6 = .ok (.getfield 47, 3) := by decide +kernel
theorem d_G_countParts_9 : decode b_G_countParts 9 = .ok (.if_icmp .ge 33, 3) := by decide +kernel
theorem d_G_countParts_12 : decode b_G_countParts 12 = .ok (.aload_n 0, 1) := by decide +kernel
theorem d_G_countParts_13 : decode b_G_countParts 13 = .ok (.getfield 37, 3) := by decide +kernel
theorem d_G_countParts_16 : decode b_G_countParts 16 = .ok (.iload_n 2, 1) := by decide +kernel
theorem d_G_countParts_17 : decode b_G_countParts 17 = .ok (.iload_n 2, 1) := by decide +kernel
theorem d_G_countParts_18 : decode b_G_countParts 18 = .ok (.iastore, 1) := by decide +kernel
theorem d_G_countParts_19 : decode b_G_countParts 19 = .ok (.iload_n 1, 1) := by decide +kernel
theorem d_G_countParts_20 : decode b_G_countParts 20 = .ok (.aload_n 0, 1) := by decide +kernel
theorem d_G_countParts_21 : decode b_G_countParts 21 = .ok (.getfield 9, 3) := by decide +kernel
theorem d_G_countParts_24 : decode b_G_countParts 24 = .ok (.iload_n 2, 1) := by decide +kernel
theorem d_G_countParts_25 : decode b_G_countParts 25 = .ok (.baload, 1) := by decide +kernel
theorem d_G_countParts_26 : decode b_G_countParts 26 = .ok (.ifCond .eq 7, 3) := by decide +kernel
theorem d_G_countParts_29 : decode b_G_countParts 29 = .ok (.iconst 0, 1) := by decide +kernel
theorem d_G_countParts_30 : decode b_G_countParts 30 = .ok (.goto 4, 3) := by decide +kernel
theorem d_G_countParts_33 : decode b_G_countParts 33 = .ok (.iconst 1, 1) := by decide +kernel
theorem d_G_countParts_34 : decode b_G_countParts 34 = .ok (.iadd, 1) := by decide +kernel
theorem d_G_countParts_35 : decode b_G_countParts 35 = .ok (.istore_n 1, 1) := by decide +kernel
theorem d_G_countParts_36 : decode b_G_countParts 36 = .ok (.iinc 2 1, 3) := by decide +kernel
theorem d_G_countParts_39 : decode b_G_countParts 39 = .ok (.goto (-35), 3) := by decide +kernel
theorem d_G_countParts_42 : decode b_G_countParts 42 = .ok (.iconst 0, 1) := by decide +kernel
theorem d_G_countParts_43 : decode b_G_countParts 43 = .ok (.istore_n 2, 1) := by decide +kernel
theorem d_G_countParts_44 : decode b_G_countParts 44 = .ok (.iload_n 2, 1) := by decide +kernel
theorem d_G_countParts_45 : decode b_G_countParts 45 = .ok (.aload_n 0, 1) := by decide +kernel
theorem d_G_countParts_46 : decode b_G_countParts 46 = .ok (.getfield 44, 3) := by decide +kernel
theorem d_G_countParts_49 : decode b_G_countParts 49 = .ok (.if_icmp .ge 67, 3) := by decide +kernel
theorem d_G_countParts_52 : decode b_G_countParts 52 = .ok (.iconst 0, 1) := by decide +kernel
theorem d_G_countParts_53 : decode b_G_countParts 53 = .ok (.istore_n 3, 1) := by decide +kernel
theorem d_G_countParts_54 : decode b_G_countParts 54 = .ok (.iload_n 3, 1) := by decide +kernel
theorem d_G_countParts_55 : decode b_G_countParts 55 = .ok (.aload_n 0, 1) := by decide +kernel
theorem d_G_countParts_56 : decode b_G_countParts 56 = .ok (.getfield 40, 3) := by decide +kernel
theorem d_G_countParts_59 : decode b_G_countParts 59 = .ok (.if_icmp .ge 51, 3) := by decide +kernel
theorem d_G_countParts_62 : decode b_G_countParts 62 = .ok (.iload_n 1, 1) := by decide +kernel
theorem d_G_countParts_63 : decode b_G_countParts 63 = .ok (.aload_n 0, 1) := by decide +kernel
theorem d_G_countParts_64 : decode b_G_countParts 64 = .ok (.iload_n 3, 1) := by decide +kernel
theorem d_G_countParts_65 : decode b_G_countParts 65 = .ok (.iload_n 2, 1) := by decide +kernel
theorem d_G_countParts_66 : decode b_G_countParts 66 = .ok (.iload_n 3, 1) := by decide +kernel
theorem d_G_countParts_67 : decode b_G_countParts 67 = .ok (.iconst 1, 1) := by decide +kernel
theorem d_G_countParts_68 : decode b_G_countParts 68 = .ok (.iadd, 1) := by decide +kernel
theorem d_G_countParts_69 : decode b_G_countParts 69 = .ok (.iload_n 2, 1) := by decide +kernel
theorem d_G_countParts_70 : decode b_G_countParts 70 = .ok (.invokevirtual 85, 3) := by decide +kernel
theorem d_G_countParts_73 : decode b_G_countParts 73 = .ok (.ifCond .eq 7, 3) := by decide +kernel
theorem d_G_countParts_76 : decode b_G_countParts 76 = .ok (.iconst 1, 1) := by decide +kernel
theorem d_G_countParts_77 : decode b_G_countParts 77 = .ok (.goto 4, 3) := by decide +kernel
theorem d_G_countParts_80 : decode b_G_countParts 80 = .ok (.iconst 0, 1) := by decide +kernel
theorem d_G_countParts_81 : decode b_G_countParts 81 = .ok (.isub, 1) := by decide +kernel
theorem d_G_countParts_82 : decode b_G_countParts 82 = .ok (.istore_n 1, 1) := by decide +kernel
theorem d_G_countParts_83 : decode b_G_countParts 83 = .ok (.iload_n 1, 1) := by decide +kernel
theorem d_G_countParts_84 : decode b_G_countParts 84 = .ok (.aload_n 0, 1) := by decide +kernel
theorem d_G_countParts_85 : decode b_G_countParts 85 = .ok (.iload_n 3, 1) := by decide +kernel
theorem d_G_countParts_86 : decode b_G_countParts 86 = .ok (.iload_n 2, 1) := by decide +kernel
theorem d_G_countParts_87 : decode b_G_countParts 87 = .ok (.iload_n 3, 1) := by decide +kernel
theorem d_G_countParts_88 : decode b_G_countParts 88 = .ok (.iload_n 2, 1) := by decide +kernel
theorem d_G_countParts_89 : decode b_G_countParts 89 = .ok (.iconst 1, 1) := by decide +kernel
theorem d_G_countParts_90 : decode b_G_countParts 90 = .ok (.iadd, 1) := by decide +kernel
theorem d_G_countParts_91 : decode b_G_countParts 91 = .ok (.invokevirtual 85, 3) := by decide +kernel
theorem d_G_countParts_94 : decode b_G_countParts 94 = .ok (.ifCond .eq 7, 3) := by decide +kernel
theorem d_G_countParts_97 : decode b_G_countParts 97 = .ok (.iconst 1, 1) := by decide +kernel
theorem d_G_countParts_98 : decode b_G_countParts 98 = .ok (.goto 4, 3) := by decide +kernel
theorem d_G_countParts_101 : decode b_G_countParts 101 = .ok (.iconst 0, 1) := by decide +kernel
theorem d_G_countParts_102 : decode b_G_countParts 102 = .ok (.isub, 1) := by decide +kernel
theorem d_G_countParts_103 : decode b_G_countParts 103 = .ok (.istore_n 1, 1) := by decide +kernel
theorem d_G_countParts_104 : decode b_G_countParts 104 = .ok (.iinc 3 1, 3) := by decide +kernel
theorem d_G_countParts_107 : decode b_G_countParts 107 = .ok (.goto (-53), 3) := by decide +kernel
theorem d_G_countParts_110 : decode b_G_countParts 110 = .ok (.iinc 2 1, 3) := by decide +kernel
theorem d_G_countParts_113 : decode b_G_countParts 113 = .ok (.goto (-69), 3) := by decide +kernel
theorem d_G_countParts_116 : decode b_G_countParts 116 = .ok (.iload_n 1, 1) := by decide +kernel
theorem d_G_countParts_117 : decode b_G_countParts 117 = .ok (.ireturn, 1) := by decide +kernel
theorem d_L_lowBit_0 : decode b_L_lowBit 0 = .ok (.iload_n 0, 1) := by decide +kernel
theorem d_L_lowBit_1 : decode b_L_lowBit 1 = .ok (.bipush 64, 2) := by decide +kernel
theorem d_L_lowBit_3 : decode b_L_lowBit 3 = .ok (.if_icmp .ge 9, 3) := by decide +kernel
theorem d_L_lowBit_6 : decode b_L_lowBit 6 = .ok (.lconst 1, 1) := by decide +kernel
theorem d_L_lowBit_7 : decode b_L_lowBit 7 = .ok (.iload_n 0, 1) := by decide +kernel
theorem d_L_lowBit_8 : decode b_L_lowBit 8 = .ok (.lshl, 1) := by decide +kernel
theorem d_L_lowBit_9 : decode b_L_lowBit 9 = .ok (.goto 4, 3) := by decide +kernel
theorem d_L_lowBit_12 : decode b_L_lowBit 12 = .ok (.lconst 0, 1) := by decide +kernel
theorem d_L_lowBit_13 : decode b_L_lowBit 13 = .ok (.lreturn, 1) := by decide +kernel
theorem d_L_highBit_0 : decode b_L_highBit 0 = .ok (.iload_n 0, 1) := by decide +kernel
theorem d_L_highBit_1 : decode b_L_highBit 1 = .ok (.bipush 64, 2) := by decide +kernel
theorem d_L_highBit_3 : decode b_L_highBit 3 = .ok (.if_icmp .ge 7, 3) := by decide +kernel
theorem d_L_highBit_6 : decode b_L_highBit 6 = .ok (.lconst 0, 1) := by decide +kernel
theorem d_L_highBit_7 : decode b_L_highBit 7 = .ok (.goto 9, 3) := by decide +kernel
theorem d_L_highBit_10 : decode b_L_highBit 10 = .ok (.lconst 1, 1) := by decide +kernel
theorem d_L_highBit_11 : decode b_L_highBit 11 = .ok (.iload_n 0, 1) := by decide +kernel
theorem d_L_highBit_12 : decode b_L_highBit 12 = .ok (.bipush 64, 2) := by decide +kernel
theorem d_L_highBit_14 : decode b_L_highBit 14 = .ok (.isub, 1) := by decide +kernel
theorem d_L_highBit_15 : decode b_L_highBit 15 = .ok (.lshl, 1) := by decide +kernel
theorem d_L_highBit_16 : decode b_L_highBit 16 = .ok (.lreturn, 1) := by decide +kernel
theorem d_L_keyOf_0 : decode b_L_keyOf 0 = .ok (.iload_n 0, 1) := by decide +kernel
theorem d_L_keyOf_1 : decode b_L_keyOf 1 = .ok (.bipush 26, 2) := by decide +kernel
theorem d_L_keyOf_3 : decode b_L_keyOf 3 = .ok (.imul, 1) := by decide +kernel
theorem d_L_keyOf_4 : decode b_L_keyOf 4 = .ok (.iload_n 1, 1) := by decide +kernel
theorem d_L_keyOf_5 : decode b_L_keyOf 5 = .ok (.iadd, 1) := by decide +kernel
theorem d_L_keyOf_6 : decode b_L_keyOf 6 = .ok (.bipush 97, 2) := by decide +kernel
theorem d_L_keyOf_8 : decode b_L_keyOf 8 = .ok (.isub, 1) := by decide +kernel
theorem d_L_keyOf_9 : decode b_L_keyOf 9 = .ok (.ireturn, 1) := by decide +kernel
theorem d_L_hasWord_0 : decode b_L_hasWord 0 = .ok (.iload_n 1, 1) := by decide +kernel
theorem d_L_hasWord_1 : decode b_L_hasWord 1 = .ok (.ifCond .lt 15, 3) := by decide +kernel
theorem d_L_hasWord_4 : decode b_L_hasWord 4 = .ok (.iload_n 1, 1) := by decide +kernel
theorem d_L_hasWord_5 : decode b_L_hasWord 5 = .ok (.aload_n 0, 1) := by decide +kernel
theorem d_L_hasWord_6 : decode b_L_hasWord 6 = .ok (.getfield 43, 3) := by decide +kernel
theorem d_L_hasWord_9 : decode b_L_hasWord 9 = .ok (.if_icmp .ge 7, 3) := by decide +kernel
theorem d_L_hasWord_12 : decode b_L_hasWord 12 = .ok (.iconst 1, 1) := by decide +kernel
theorem d_L_hasWord_13 : decode b_L_hasWord 13 = .ok (.goto 4, 3) := by decide +kernel
theorem d_L_hasWord_16 : decode b_L_hasWord 16 = .ok (.iconst 0, 1) := by decide +kernel
theorem d_L_hasWord_17 : decode b_L_hasWord 17 = .ok (.ireturn, 1) := by decide +kernel
theorem d_L_letterOf_0 : decode b_L_letterOf 0 = .ok (.aload_n 0, 1) := by decide +kernel
theorem d_L_letterOf_1 : decode b_L_letterOf 1 = .ok (.getfield 37, 3) := by decide +kernel
theorem d_L_letterOf_4 : decode b_L_letterOf 4 = .ok (.iload_n 1, 1) := by decide +kernel
theorem d_L_letterOf_5 : decode b_L_letterOf 5 = .ok (.bipush 6, 2) := by decide +kernel
theorem d_L_letterOf_7 : decode b_L_letterOf 7 = .ok (.imul, 1) := by decide +kernel
theorem d_L_letterOf_8 : decode b_L_letterOf 8 = .ok (.iload_n 2, 1) := by decide +kernel
theorem d_L_letterOf_9 : decode b_L_letterOf 9 = .ok (.iadd, 1) := by decide +kernel
theorem d_L_letterOf_10 : decode b_L_letterOf 10 = .ok (.iaload, 1) := by decide +kernel
theorem d_L_letterOf_11 : decode b_L_letterOf 11 = .ok (.ireturn, 1) := by decide +kernel
theorem d_L_collect_0 : decode b_L_collect 0 = .ok (.aload_n 0, 1) := by decide +kernel
theorem d_L_collect_1 : decode b_L_collect 1 = .ok (.getfield 47, 3) := by decide +kernel
theorem d_L_collect_4 : decode b_L_collect 4 = .ok (.bipush 6, 2) := by decide +kernel
theorem d_L_collect_6 : decode b_L_collect 6 = .ok (.if_icmp .lt 5, 3) := by decide +kernel
theorem d_L_collect_9 : decode b_L_collect 9 = .ok (.iconst 0, 1) := by decide +kernel
theorem d_L_collect_10 : decode b_L_collect 10 = .ok (.ireturn, 1) := by decide +kernel
theorem d_L_collect_11 : decode b_L_collect 11 = .ok (.aload_n 0, 1) := by decide +kernel
theorem d_L_collect_12 : decode b_L_collect 12 = .ok (.getfield 40, 3) := by decide +kernel
theorem d_L_collect_15 : decode b_L_collect 15 = .ok (.aload_n 0, 1) := by decide +kernel
theorem d_L_collect_16 : decode b_L_collect 16 = .ok (.getfield 47, 3) := by decide +kernel
theorem d_L_collect_19 : decode b_L_collect 19 = .ok (.iload_n 1, 1) := by decide +kernel
theorem d_L_collect_20 : decode b_L_collect 20 = .ok (.iastore, 1) := by decide +kernel
theorem d_L_collect_21 : decode b_L_collect 21 = .ok (.aload_n 0, 1) := by decide +kernel
theorem d_L_collect_22 : decode b_L_collect 22 = .ok (.dup, 1) := by decide +kernel
theorem d_L_collect_23 : decode b_L_collect 23 = .ok (.getfield 47, 3) := by decide +kernel
theorem d_L_collect_26 : decode b_L_collect 26 = .ok (.iconst 1, 1) := by decide +kernel
theorem d_L_collect_27 : decode b_L_collect 27 = .ok (.iadd, 1) := by decide +kernel
theorem d_L_collect_28 : decode b_L_collect 28 = .ok (.putfield 47, 3) := by decide +kernel
theorem d_L_collect_31 : decode b_L_collect 31 = .ok (.iconst 1, 1) := by decide +kernel
theorem d_L_collect_32 : decode b_L_collect 32 = .ok (.ireturn, 1) := by decide +kernel
theorem d_L_dropCollected_0 : decode b_L_dropCollected 0 = .ok (.aload_n 0, 1) := by decide +kernel
theorem d_L_dropCollected_1 : decode b_L_dropCollected 1 = .ok (.iconst 0, 1) := by decide +kernel
theorem d_L_dropCollected_2 : decode b_L_dropCollected 2 = .ok (.putfield 47, 3) := by decide +kernel
theorem d_L_dropCollected_5 : decode b_L_dropCollected 5 = .ok (.return_, 1) := by decide +kernel
theorem d_L_isCollected_0 : decode b_L_isCollected 0 = .ok (.aload_n 0, 1) := by decide +kernel
theorem d_L_isCollected_1 : decode b_L_isCollected 1 = .ok (.getfield 9, 3) := by decide +kernel
theorem d_L_isCollected_4 : decode b_L_isCollected 4 = .ok (.iload_n 1, 1) := by decide +kernel
theorem d_L_isCollected_5 : decode b_L_isCollected 5 = .ok (.iaload, 1) := by decide +kernel
theorem d_L_isCollected_6 : decode b_L_isCollected 6 = .ok (.aload_n 0, 1) := by decide +kernel
theorem d_L_isCollected_7 : decode b_L_isCollected 7 = .ok (.getfield 47, 3) := by decide +kernel
theorem d_L_isCollected_10 : decode b_L_isCollected 10 = .ok (.if_icmp .eq 5, 3) := by decide +kernel
theorem d_L_isCollected_13 : decode b_L_isCollected 13 = .ok (.iconst 0, 1) := by decide +kernel
theorem d_L_isCollected_14 : decode b_L_isCollected 14 = .ok (.ireturn, 1) := by decide +kernel
theorem d_L_isCollected_15 : decode b_L_isCollected 15 = .ok (.iconst 0, 1) := by decide +kernel
theorem d_L_isCollected_16 : decode b_L_isCollected 16 = .ok (.istore_n 2, 1) := by decide +kernel
theorem d_L_isCollected_17 : decode b_L_isCollected 17 = .ok (.iload_n 2, 1) := by decide +kernel
theorem d_L_isCollected_18 : decode b_L_isCollected 18 = .ok (.aload_n 0, 1) := by decide +kernel
theorem d_L_isCollected_19 : decode b_L_isCollected 19 = .ok (.getfield 47, 3) := by decide +kernel
theorem d_L_isCollected_22 : decode b_L_isCollected 22 = .ok (.if_icmp .ge 26, 3) := by decide +kernel
theorem d_L_isCollected_25 : decode b_L_isCollected 25 = .ok (.aload_n 0, 1) := by decide +kernel
theorem d_L_isCollected_26 : decode b_L_isCollected 26 = .ok (.iload_n 1, 1) := by decide +kernel
theorem d_L_isCollected_27 : decode b_L_isCollected 27 = .ok (.iload_n 2, 1) := by decide +kernel
theorem d_L_isCollected_28 : decode b_L_isCollected 28 = .ok (.invokevirtual 71, 3) := by decide +kernel
theorem d_L_isCollected_31 : decode b_L_isCollected 31 = .ok (.aload_n 0, 1) := by decide +kernel
theorem d_L_isCollected_32 : decode b_L_isCollected 32 = .ok (.getfield 40, 3) := by decide +kernel
theorem d_L_isCollected_35 : decode b_L_isCollected 35 = .ok (.iload_n 2, 1) := by decide +kernel
theorem d_L_isCollected_36 : decode b_L_isCollected 36 = .ok (.iaload, 1) := by decide +kernel
theorem d_L_isCollected_37 : decode b_L_isCollected 37 = .ok (.if_icmp .eq 5, 3) := by decide +kernel
theorem d_L_isCollected_40 : decode b_L_isCollected 40 = .ok (.iconst 0, 1) := by decide +kernel
theorem d_L_isCollected_41 : decode b_L_isCollected 41 = .ok (.ireturn, 1) := by decide +kernel
theorem d_L_isCollected_42 : decode b_L_isCollected 42 = .ok (.iinc 2 1, 3) := by decide +kernel
theorem d_L_isCollected_45 : decode b_L_isCollected 45 = .ok (.goto (-28), 3) := by decide +kernel
theorem d_L_isCollected_48 : decode b_L_isCollected 48 = .ok (.iconst 1, 1) := by decide +kernel
theorem d_L_isCollected_49 : decode b_L_isCollected 49 = .ok (.ireturn, 1) := by decide +kernel
theorem d_L_isThere_0 : decode b_L_isThere 0 = .ok (.iconst 0, 1) := by decide +kernel
theorem d_L_isThere_1 : decode b_L_isThere 1 = .ok (.istore_n 1, 1) := by decide +kernel
theorem d_L_isThere_2 : decode b_L_isThere 2 = .ok (.iload_n 1, 1) := by decide +kernel
theorem d_L_isThere_3 : decode b_L_isThere 3 = .ok (.aload_n 0, 1) := by decide +kernel
theorem d_L_isThere_4 : decode b_L_isThere 4 = .ok (.getfield 43, 3) := by decide +kernel
theorem d_L_isThere_7 : decode b_L_isThere 7 = .ok (.if_icmp .ge 19, 3) := by decide +kernel
theorem d_L_isThere_10 : decode b_L_isThere 10 = .ok (.aload_n 0, 1) := by decide +kernel
theorem d_L_isThere_11 : decode b_L_isThere 11 = .ok (.iload_n 1, 1) := by decide +kernel
theorem d_L_isThere_12 : decode b_L_isThere 12 = .ok (.invokevirtual 67, 3) := by decide +kernel
theorem d_L_isThere_15 : decode b_L_isThere 15 = .ok (.ifCond .eq 5, 3) := by decide +kernel
theorem d_L_isThere_18 : decode b_L_isThere 18 = .ok (.iconst 1, 1) := by decide +kernel
theorem d_L_isThere_19 : decode b_L_isThere 19 = .ok (.ireturn, 1) := by decide +kernel
theorem d_L_isThere_20 : decode b_L_isThere 20 = .ok (.iinc 1 1, 3) := by decide +kernel
theorem d_L_isThere_23 : decode b_L_isThere 23 = .ok (.goto (-21), 3) := by decide +kernel
theorem d_L_isThere_26 : decode b_L_isThere 26 = .ok (.iconst 0, 1) := by decide +kernel
theorem d_L_isThere_27 : decode b_L_isThere 27 = .ok (.ireturn, 1) := by decide +kernel
theorem d_L_rank_0 : decode b_L_rank 0 = .ok (.iload_n 1, 1) := by decide +kernel
theorem d_L_rank_1 : decode b_L_rank 1 = .ok (.istore_n 2, 1) := by decide +kernel
theorem d_L_rank_2 : decode b_L_rank 2 = .ok (.iload_n 2, 1) := by decide +kernel
theorem d_L_rank_3 : decode b_L_rank 3 = .ok (.ifCond .le 45, 3) := by decide +kernel
theorem d_L_rank_6 : decode b_L_rank 6 = .ok (.aload_n 0, 1) := by decide +kernel
theorem d_L_rank_7 : decode b_L_rank 7 = .ok (.getfield 15, 3) := by decide +kernel
theorem d_L_rank_10 : decode b_L_rank 10 = .ok (.aload_n 0, 1) := by decide +kernel
theorem d_L_rank_11 : decode b_L_rank 11 = .ok (.getfield 18, 3) := by decide +kernel
theorem d_L_rank_14 : decode b_L_rank 14 = .ok (.iload_n 2, 1) := by decide +kernel
theorem d_L_rank_15 : decode b_L_rank 15 = .ok (.iconst 1, 1) := by decide +kernel
theorem d_L_rank_16 : decode b_L_rank 16 = .ok (.isub, 1) := by decide +kernel
theorem d_L_rank_17 : decode b_L_rank 17 = .ok (.iaload, 1) := by decide +kernel
theorem d_L_rank_18 : decode b_L_rank 18 = .ok (.iaload, 1) := by decide +kernel
theorem d_L_rank_19 : decode b_L_rank 19 = .ok (.aload_n 0, 1) := by decide +kernel
theorem d_L_rank_20 : decode b_L_rank 20 = .ok (.getfield 15, 3) := by decide +kernel
theorem d_L_rank_23 : decode b_L_rank 23 = .ok (.iload_n 1, 1) := by decide +kernel
theorem d_L_rank_24 : decode b_L_rank 24 = .ok (.iaload, 1) := by decide +kernel
theorem d_L_rank_25 : decode b_L_rank 25 = .ok (.if_icmp .ge 23, 3) := by decide +kernel
theorem d_L_rank_28 : decode b_L_rank 28 = .ok (.aload_n 0, 1) := by decide +kernel
theorem d_L_rank_29 : decode b_L_rank 29 = .ok (.getfield 18, 3) := by decide +kernel
theorem d_L_rank_32 : decode b_L_rank 32 = .ok (.iload_n 2, 1) := by decide +kernel
theorem d_L_rank_33 : decode b_L_rank 33 = .ok (.aload_n 0, 1) := by decide +kernel
theorem d_L_rank_34 : decode b_L_rank 34 = .ok (.getfield 18, 3) := by decide +kernel
theorem d_L_rank_37 : decode b_L_rank 37 = .ok (.iload_n 2, 1) := by decide +kernel
theorem d_L_rank_38 : decode b_L_rank 38 = .ok (.iconst 1, 1) := by decide +kernel
theorem d_L_rank_39 : decode b_L_rank 39 = .ok (.isub, 1) := by decide +kernel
theorem d_L_rank_40 : decode b_L_rank 40 = .ok (.iaload, 1) := by decide +kernel
theorem d_L_rank_41 : decode b_L_rank 41 = .ok (.iastore, 1) := by decide +kernel
theorem d_L_rank_42 : decode b_L_rank 42 = .ok (.iinc 2 (-1), 3) := by decide +kernel
theorem d_L_rank_45 : decode b_L_rank 45 = .ok (.goto (-43), 3) := by decide +kernel
theorem d_L_rank_48 : decode b_L_rank 48 = .ok (.aload_n 0, 1) := by decide +kernel
theorem d_L_rank_49 : decode b_L_rank 49 = .ok (.getfield 18, 3) := by decide +kernel
theorem d_L_rank_52 : decode b_L_rank 52 = .ok (.iload_n 2, 1) := by decide +kernel
theorem d_L_rank_53 : decode b_L_rank 53 = .ok (.iload_n 1, 1) := by decide +kernel
theorem d_L_rank_54 : decode b_L_rank 54 = .ok (.iastore, 1) := by decide +kernel
theorem d_L_rank_55 : decode b_L_rank 55 = .ok (.return_, 1) := by decide +kernel
theorem d_L_sortIntoSets_0 : decode b_L_sortIntoSets 0 = .ok (.aload_n 0, 1) := by decide +kernel
theorem d_L_sortIntoSets_1 : decode b_L_sortIntoSets 1 = .ok (.getfield 24, 3) := by decide +kernel
theorem d_L_sortIntoSets_4 : decode b_L_sortIntoSets 4 = .ok (.lconst 0, 1) := by decide +kernel
theorem d_L_sortIntoSets_5 : decode b_L_sortIntoSets 5 = .ok (.invokestatic 75, 3) := by decide +kernel
theorem d_L_sortIntoSets_8 : decode b_L_sortIntoSets 8 = .ok (.aload_n 0, 1) := by decide +kernel
theorem d_L_sortIntoSets_9 : decode b_L_sortIntoSets 9 = .ok (.getfield 28, 3) := by decide +kernel
theorem d_L_sortIntoSets_12 : decode b_L_sortIntoSets 12 = .ok (.lconst 0, 1) := by decide +kernel
theorem d_L_sortIntoSets_13 : decode b_L_sortIntoSets 13 = .ok (.invokestatic 75, 3) := by decide +kernel
theorem d_L_sortIntoSets_16 : decode b_L_sortIntoSets 16 = .ok (.aload_n 0, 1) := by decide +kernel
theorem d_L_sortIntoSets_17 : decode b_L_sortIntoSets 17 = .ok (.getfield 31, 3) := by decide +kernel
theorem d_L_sortIntoSets_20 : decode b_L_sortIntoSets 20 = .ok (.lconst 0, 1) := by decide +kernel
theorem d_L_sortIntoSets_21 : decode b_L_sortIntoSets 21 = .ok (.invokestatic 75, 3) := by decide +kernel
theorem d_L_sortIntoSets_24 : decode b_L_sortIntoSets 24 = .ok (.aload_n 0, 1) := by decide +kernel
theorem d_L_sortIntoSets_25 : decode b_L_sortIntoSets 25 = .ok (.getfield 34, 3) := by decide +kernel
theorem d_L_sortIntoSets_28 : decode b_L_sortIntoSets 28 = .ok (.lconst 0, 1) := by decide +kernel
theorem d_L_sortIntoSets_29 : decode b_L_sortIntoSets 29 = .ok (.invokestatic 75, 3) := by decide +kernel
theorem d_L_sortIntoSets_32 : decode b_L_sortIntoSets 32 = .ok (.iconst 0, 1) := by decide +kernel
theorem d_L_sortIntoSets_33 : decode b_L_sortIntoSets 33 = .ok (.istore_n 1, 1) := by decide +kernel
theorem d_L_sortIntoSets_34 : decode b_L_sortIntoSets 34 = .ok (.iload_n 1, 1) := by decide +kernel
theorem d_L_sortIntoSets_35 : decode b_L_sortIntoSets 35 = .ok (.aload_n 0, 1) := by decide +kernel
theorem d_L_sortIntoSets_36 : decode b_L_sortIntoSets 36 = .ok (.getfield 43, 3) := by decide +kernel
theorem d_L_sortIntoSets_39 : decode b_L_sortIntoSets 39 = .ok (.if_icmp .ge 117, 3) := by decide +kernel
theorem d_L_sortIntoSets_42 : decode b_L_sortIntoSets 42 = .ok (.aload_n 0, 1) := by decide +kernel
theorem d_L_sortIntoSets_43 : decode b_L_sortIntoSets 43 = .ok (.getfield 18, 3) := by decide +kernel
theorem d_L_sortIntoSets_46 : decode b_L_sortIntoSets 46 = .ok (.iload_n 1, 1) := by decide +kernel
theorem d_L_sortIntoSets_47 : decode b_L_sortIntoSets 47 = .ok (.iaload, 1) := by decide +kernel
theorem d_L_sortIntoSets_48 : decode b_L_sortIntoSets 48 = .ok (.istore_n 2, 1) := by decide +kernel
theorem d_L_sortIntoSets_49 : decode b_L_sortIntoSets 49 = .ok (.aload_n 0, 1) := by decide +kernel
theorem d_L_sortIntoSets_50 : decode b_L_sortIntoSets 50 = .ok (.getfield 21, 3) := by decide +kernel
theorem d_L_sortIntoSets_53 : decode b_L_sortIntoSets 53 = .ok (.iload_n 2, 1) := by decide +kernel
theorem d_L_sortIntoSets_54 : decode b_L_sortIntoSets 54 = .ok (.iload_n 1, 1) := by decide +kernel
theorem d_L_sortIntoSets_55 : decode b_L_sortIntoSets 55 = .ok (.iastore, 1) := by decide +kernel
theorem d_L_sortIntoSets_56 : decode b_L_sortIntoSets 56 = .ok (.aload_n 0, 1) := by decide +kernel
theorem d_L_sortIntoSets_57 : decode b_L_sortIntoSets 57 = .ok (.getfield 24, 3) := by decide +kernel
theorem d_L_sortIntoSets_60 : decode b_L_sortIntoSets 60 = .ok (.aload_n 0, 1) := by decide +kernel
theorem d_L_sortIntoSets_61 : decode b_L_sortIntoSets 61 = .ok (.getfield 9, 3) := by decide +kernel
theorem d_L_sortIntoSets_64 : decode b_L_sortIntoSets 64 = .ok (.iload_n 2, 1) := by decide +kernel
theorem d_L_sortIntoSets_65 : decode b_L_sortIntoSets 65 = .ok (.iaload, 1) := by decide +kernel
theorem d_L_sortIntoSets_66 : decode b_L_sortIntoSets 66 = .ok (.dup2, 1) := by decide +kernel
theorem d_L_sortIntoSets_67 : decode b_L_sortIntoSets 67 = .ok (.laload, 1) := by decide +kernel
theorem d_L_sortIntoSets_68 : decode b_L_sortIntoSets 68 = .ok (.iload_n 1, 1) := by decide +kernel
theorem d_L_sortIntoSets_69 : decode b_L_sortIntoSets 69 = .ok (.invokestatic 81, 3) := by decide +kernel
theorem d_L_sortIntoSets_72 : decode b_L_sortIntoSets 72 = .ok (.lor, 1) := by decide +kernel
theorem d_L_sortIntoSets_73 : decode b_L_sortIntoSets 73 = .ok (.lastore, 1) := by decide +kernel
theorem d_L_sortIntoSets_74 : decode b_L_sortIntoSets 74 = .ok (.aload_n 0, 1) := by decide +kernel
theorem d_L_sortIntoSets_75 : decode b_L_sortIntoSets 75 = .ok (.getfield 28, 3) := by decide +kernel
theorem d_L_sortIntoSets_78 : decode b_L_sortIntoSets 78 = .ok (.aload_n 0, 1) := by decide +kernel
theorem d_L_sortIntoSets_79 : decode b_L_sortIntoSets 79 = .ok (.getfield 9, 3) := by decide +kernel
theorem d_L_sortIntoSets_82 : decode b_L_sortIntoSets 82 = .ok (.iload_n 2, 1) := by decide +kernel
theorem d_L_sortIntoSets_83 : decode b_L_sortIntoSets 83 = .ok (.iaload, 1) := by decide +kernel
theorem d_L_sortIntoSets_84 : decode b_L_sortIntoSets 84 = .ok (.dup2, 1) := by decide +kernel
theorem d_L_sortIntoSets_85 : decode b_L_sortIntoSets 85 = .ok (.laload, 1) := by decide +kernel
theorem d_L_sortIntoSets_86 : decode b_L_sortIntoSets 86 = .ok (.iload_n 1, 1) := by decide +kernel
theorem d_L_sortIntoSets_87 : decode b_L_sortIntoSets 87 = .ok (.invokestatic 85, 3) := by decide +kernel
theorem d_L_sortIntoSets_90 : decode b_L_sortIntoSets 90 = .ok (.lor, 1) := by decide +kernel
theorem d_L_sortIntoSets_91 : decode b_L_sortIntoSets 91 = .ok (.lastore, 1) := by decide +kernel
theorem d_L_sortIntoSets_92 : decode b_L_sortIntoSets 92 = .ok (.iconst 0, 1) := by decide +kernel
theorem d_L_sortIntoSets_93 : decode b_L_sortIntoSets 93 = .ok (.istore_n 3, 1) := by decide +kernel
theorem d_L_sortIntoSets_94 : decode b_L_sortIntoSets 94 = .ok (.iload_n 3, 1) := by decide +kernel
theorem d_L_sortIntoSets_95 : decode b_L_sortIntoSets 95 = .ok (.aload_n 0, 1) := by decide +kernel
theorem d_L_sortIntoSets_96 : decode b_L_sortIntoSets 96 = .ok (.getfield 9, 3) := by decide +kernel
theorem d_L_sortIntoSets_99 : decode b_L_sortIntoSets 99 = .ok (.iload_n 2, 1) := by decide +kernel
theorem d_L_sortIntoSets_100 : decode b_L_sortIntoSets 100 = .ok (.iaload, 1) := by decide +kernel
theorem d_L_sortIntoSets_101 : decode b_L_sortIntoSets 101 = .ok (.if_icmp .ge 49, 3) := by decide +kernel
theorem d_L_sortIntoSets_104 : decode b_L_sortIntoSets 104 = .ok (.iload_n 3, 1) := by decide +kernel
theorem d_L_sortIntoSets_105 : decode b_L_sortIntoSets 105 = .ok (.aload_n 0, 1) := by decide +kernel
theorem d_L_sortIntoSets_106 : decode b_L_sortIntoSets 106 = .ok (.iload_n 2, 1) := by decide +kernel
theorem d_L_sortIntoSets_107 : decode b_L_sortIntoSets 107 = .ok (.iload_n 3, 1) := by decide +kernel
theorem d_L_sortIntoSets_108 : decode b_L_sortIntoSets 108 = .ok (.invokevirtual 71, 3) := by decide +kernel
theorem d_L_sortIntoSets_111 : decode b_L_sortIntoSets 111 = .ok (.invokestatic 88, 3) := by decide +kernel
theorem d_L_sortIntoSets_114 : decode b_L_sortIntoSets 114 = .ok (.istore 4, 2) := by decide +kernel
theorem d_L_sortIntoSets_116 : decode b_L_sortIntoSets 116 = .ok (.aload_n 0, 1) := by decide +kernel
theorem d_L_sortIntoSets_117 : decode b_L_sortIntoSets 117 = .ok (.getfield 31, 3) := by decide +kernel
theorem d_L_sortIntoSets_120 : decode b_L_sortIntoSets 120 = .ok (.iload 4, 2) := by decide +kernel
theorem d_L_sortIntoSets_122 : decode b_L_sortIntoSets 122 = .ok (.dup2, 1) := by decide +kernel
theorem d_L_sortIntoSets_123 : decode b_L_sortIntoSets 123 = .ok (.laload, 1) := by decide +kernel
theorem d_L_sortIntoSets_124 : decode b_L_sortIntoSets 124 = .ok (.iload_n 1, 1) := by decide +kernel
theorem d_L_sortIntoSets_125 : decode b_L_sortIntoSets 125 = .ok (.invokestatic 81, 3) := by decide +kernel
theorem d_L_sortIntoSets_128 : decode b_L_sortIntoSets 128 = .ok (.lor, 1) := by decide +kernel
theorem d_L_sortIntoSets_129 : decode b_L_sortIntoSets 129 = .ok (.lastore, 1) := by decide +kernel
theorem d_L_sortIntoSets_130 : decode b_L_sortIntoSets 130 = .ok (.aload_n 0, 1) := by decide +kernel
theorem d_L_sortIntoSets_131 : decode b_L_sortIntoSets 131 = .ok (.getfield 34, 3) := by decide +kernel
theorem d_L_sortIntoSets_134 : decode b_L_sortIntoSets 134 = .ok (.iload 4, 2) := by decide +kernel
theorem d_L_sortIntoSets_136 : decode b_L_sortIntoSets 136 = .ok (.dup2, 1) := by decide +kernel
theorem d_L_sortIntoSets_137 : decode b_L_sortIntoSets 137 = .ok (.laload, 1) := by decide +kernel
theorem d_L_sortIntoSets_138 : decode b_L_sortIntoSets 138 = .ok (.iload_n 1, 1) := by decide +kernel
theorem d_L_sortIntoSets_139 : decode b_L_sortIntoSets 139 = .ok (.invokestatic 85, 3) := by decide +kernel
theorem d_L_sortIntoSets_142 : decode b_L_sortIntoSets 142 = .ok (.lor, 1) := by decide +kernel
theorem d_L_sortIntoSets_143 : decode b_L_sortIntoSets 143 = .ok (.lastore, 1) := by decide +kernel
theorem d_L_sortIntoSets_144 : decode b_L_sortIntoSets 144 = .ok (.iinc 3 1, 3) := by decide +kernel
theorem d_L_sortIntoSets_147 : decode b_L_sortIntoSets 147 = .ok (.goto (-53), 3) := by decide +kernel
theorem d_L_sortIntoSets_150 : decode b_L_sortIntoSets 150 = .ok (.iinc 1 1, 3) := by decide +kernel
theorem d_L_sortIntoSets_153 : decode b_L_sortIntoSets 153 = .ok (.goto (-119), 3) := by decide +kernel
theorem d_L_sortIntoSets_156 : decode b_L_sortIntoSets 156 = .ok (.return_, 1) := by decide +kernel
theorem d_L_wordFromCollected_0 : decode b_L_wordFromCollected 0 = .ok (.aload_n 0, 1) := by decide +kernel
theorem d_L_wordFromCollected_1 : decode b_L_wordFromCollected 1 = .ok (.getfield 47, 3) := by decide +kernel
theorem d_L_wordFromCollected_4 : decode b_L_wordFromCollected 4 = .ok (.iconst 2, 1) := by decide +kernel
theorem d_L_wordFromCollected_5 : decode b_L_wordFromCollected 5 = .ok (.if_icmp .lt 30, 3) := by decide +kernel
theorem d_L_wordFromCollected_8 : decode b_L_wordFromCollected 8 = .ok (.iload_n 1, 1) := by decide +kernel
theorem d_L_wordFromCollected_9 : decode b_L_wordFromCollected 9 = .ok (.ifCond .lt 26, 3) := by decide +kernel
theorem d_L_wordFromCollected_12 : decode b_L_wordFromCollected 12 = .ok (.iload_n 1, 1) := by decide +kernel
theorem d_L_wordFromCollected_13 : decode b_L_wordFromCollected 13 = .ok (.sipush 1000, 3) := by decide +kernel
theorem d_L_wordFromCollected_16 : decode b_L_wordFromCollected 16 = .ok (.if_icmp .gt 19, 3) := by decide +kernel
theorem d_L_wordFromCollected_19 : decode b_L_wordFromCollected 19 = .ok (.aload_n 0, 1) := by decide +kernel
theorem d_L_wordFromCollected_20 : decode b_L_wordFromCollected 20 = .ok (.getfield 43, 3) := by decide +kernel
theorem d_L_wordFromCollected_23 : decode b_L_wordFromCollected 23 = .ok (.bipush 80, 2) := by decide +kernel
theorem d_L_wordFromCollected_25 : decode b_L_wordFromCollected 25 = .ok (.if_icmp .ge 10, 3) := by decide +kernel
theorem d_L_wordFromCollected_28 : decode b_L_wordFromCollected 28 = .ok (.aload_n 0, 1) := by decide +kernel
theorem d_L_wordFromCollected_29 : decode b_L_wordFromCollected 29 = .ok (.invokevirtual 50, 3) := by decide +kernel
theorem d_L_wordFromCollected_32 : decode b_L_wordFromCollected 32 = .ok (.ifCond .eq 5, 3) := by decide +kernel
theorem d_L_wordFromCollected_35 : decode b_L_wordFromCollected 35 = .ok (.iconst (-1), 1) := by decide +kernel
theorem d_L_wordFromCollected_36 : decode b_L_wordFromCollected 36 = .ok (.ireturn, 1) := by decide +kernel
theorem d_L_wordFromCollected_37 : decode b_L_wordFromCollected 37 = .ok (.aload_n 0, 1) := by decide +kernel
theorem d_L_wordFromCollected_38 : decode b_L_wordFromCollected 38 = .ok (.getfield 43, 3) := by decide +kernel
theorem d_L_wordFromCollected_41 : decode b_L_wordFromCollected 41 = .ok (.istore_n 2, 1) := by decide +kernel
theorem d_L_wordFromCollected_42 : decode b_L_wordFromCollected 42 = .ok (.aload_n 0, 1) := by decide +kernel
theorem d_L_wordFromCollected_43 : decode b_L_wordFromCollected 43 = .ok (.getfield 9, 3) := by decide +kernel
theorem d_L_wordFromCollected_46 : decode b_L_wordFromCollected 46 = .ok (.iload_n 2, 1) := by decide +kernel
theorem d_L_wordFromCollected_47 : decode b_L_wordFromCollected 47 = .ok (.aload_n 0, 1) := by decide +kernel
theorem d_L_wordFromCollected_48 : decode b_L_wordFromCollected 48 = .ok (.getfield 47, 3) := by decide +kernel
theorem d_L_wordFromCollected_51 : decode b_L_wordFromCollected 51 = .ok (.iastore, 1) := by decide +kernel
theorem d_L_wordFromCollected_52 : decode b_L_wordFromCollected 52 = .ok (.aload_n 0, 1) := by decide +kernel
theorem d_L_wordFromCollected_53 : decode b_L_wordFromCollected 53 = .ok (.getfield 15, 3) := by decide +kernel
theorem d_L_wordFromCollected_56 : decode b_L_wordFromCollected 56 = .ok (.iload_n 2, 1) := by decide +kernel
theorem d_L_wordFromCollected_57 : decode b_L_wordFromCollected 57 = .ok (.iload_n 1, 1) := by decide +kernel
theorem d_L_wordFromCollected_58 : decode b_L_wordFromCollected 58 = .ok (.iastore, 1) := by decide +kernel
theorem d_L_wordFromCollected_59 : decode b_L_wordFromCollected 59 = .ok (.aload_n 0, 1) := by decide +kernel
theorem d_L_wordFromCollected_60 : decode b_L_wordFromCollected 60 = .ok (.getfield 40, 3) := by decide +kernel
theorem d_L_wordFromCollected_63 : decode b_L_wordFromCollected 63 = .ok (.iconst 0, 1) := by decide +kernel
theorem d_L_wordFromCollected_64 : decode b_L_wordFromCollected 64 = .ok (.aload_n 0, 1) := by decide +kernel
theorem d_L_wordFromCollected_65 : decode b_L_wordFromCollected 65 = .ok (.getfield 37, 3) := by decide +kernel
theorem d_L_wordFromCollected_68 : decode b_L_wordFromCollected 68 = .ok (.iload_n 2, 1) := by decide +kernel
theorem d_L_wordFromCollected_69 : decode b_L_wordFromCollected 69 = .ok (.bipush 6, 2) := by decide +kernel
theorem d_L_wordFromCollected_71 : decode b_L_wordFromCollected 71 = .ok (.imul, 1) := by decide +kernel
theorem d_L_wordFromCollected_72 : decode b_L_wordFromCollected 72 = .ok (.aload_n 0, 1) := by decide +kernel
theorem d_L_wordFromCollected_73 : decode b_L_wordFromCollected 73 = .ok (.getfield 47, 3) := by decide +kernel
theorem d_L_wordFromCollected_76 : decode b_L_wordFromCollected 76 = .ok (.invokestatic 54, 3) := by decide +kernel
theorem d_L_wordFromCollected_79 : decode b_L_wordFromCollected 79 = .ok (.aload_n 0, 1) := by decide +kernel
theorem d_L_wordFromCollected_80 : decode b_L_wordFromCollected 80 = .ok (.iload_n 2, 1) := by decide +kernel
theorem d_L_wordFromCollected_81 : decode b_L_wordFromCollected 81 = .ok (.invokevirtual 60, 3) := by decide +kernel
theorem d_L_wordFromCollected_84 : decode b_L_wordFromCollected 84 = .ok (.aload_n 0, 1) := by decide +kernel
theorem d_L_wordFromCollected_85 : decode b_L_wordFromCollected 85 = .ok (.dup, 1) := by decide +kernel
theorem d_L_wordFromCollected_86 : decode b_L_wordFromCollected 86 = .ok (.getfield 43, 3) := by decide +kernel
theorem d_L_wordFromCollected_89 : decode b_L_wordFromCollected 89 = .ok (.iconst 1, 1) := by decide +kernel
theorem d_L_wordFromCollected_90 : decode b_L_wordFromCollected 90 = .ok (.iadd, 1) := by decide +kernel
theorem d_L_wordFromCollected_91 : decode b_L_wordFromCollected 91 = .ok (.putfield 43, 3) := by decide +kernel
theorem d_L_wordFromCollected_94 : decode b_L_wordFromCollected 94 = .ok (.aload_n 0, 1) := by decide +kernel
theorem d_L_wordFromCollected_95 : decode b_L_wordFromCollected 95 = .ok (.invokevirtual 64, 3) := by decide +kernel
theorem d_L_wordFromCollected_98 : decode b_L_wordFromCollected 98 = .ok (.iload_n 2, 1) := by decide +kernel
theorem d_L_wordFromCollected_99 : decode b_L_wordFromCollected 99 = .ok (.ireturn, 1) := by decide +kernel
theorem d_F_forget_0 : decode b_F_forget 0 = .ok (.aload_n 0, 1) := by decide +kernel
theorem d_F_forget_1 : decode b_F_forget 1 = .ok (.iconst (-1), 1) := by decide +kernel
theorem d_F_forget_2 : decode b_F_forget 2 = .ok (.putfield 15, 3) := by decide +kernel
theorem d_F_forget_5 : decode b_F_forget 5 = .ok (.return_, 1) := by decide +kernel
theorem d_F_keep_0 : decode b_F_keep 0 = .ok (.aload_n 1, 1) := by decide +kernel
theorem d_F_keep_1 : decode b_F_keep 1 = .ok (.iconst 0, 1) := by decide +kernel
theorem d_F_keep_2 : decode b_F_keep 2 = .ok (.aload_n 0, 1) := by decide +kernel
theorem d_F_keep_3 : decode b_F_keep 3 = .ok (.getfield 9, 3) := by decide +kernel
theorem d_F_keep_6 : decode b_F_keep 6 = .ok (.iconst 0, 1) := by decide +kernel
theorem d_F_keep_7 : decode b_F_keep 7 = .ok (.aload_n 0, 1) := by decide +kernel
theorem d_F_keep_8 : decode b_F_keep 8 = .ok (.getfield 19, 3) := by decide +kernel
theorem d_F_keep_11 : decode b_F_keep 11 = .ok (.getfield 27, 3) := by decide +kernel
theorem d_F_keep_14 : decode b_F_keep 14 = .ok (.invokestatic 32, 3) := by decide +kernel
theorem d_F_keep_17 : decode b_F_keep 17 = .ok (.aload_n 0, 1) := by decide +kernel
theorem d_F_keep_18 : decode b_F_keep 18 = .ok (.iload_n 2, 1) := by decide +kernel
theorem d_F_keep_19 : decode b_F_keep 19 = .ok (.putfield 15, 3) := by decide +kernel
theorem d_F_keep_22 : decode b_F_keep 22 = .ok (.return_, 1) := by decide +kernel
theorem d_F_wordOf_0 : decode b_F_wordOf 0 = .ok (.aload_n 0, 1) := by decide +kernel
theorem d_F_wordOf_1 : decode b_F_wordOf 1 = .ok (.getfield 15, 3) := by decide +kernel
theorem d_F_wordOf_4 : decode b_F_wordOf 4 = .ok (.iconst (-1), 1) := by decide +kernel
theorem d_F_wordOf_5 : decode b_F_wordOf 5 = .ok (.if_icmp .ne 7, 3) := by decide +kernel
theorem d_F_wordOf_8 : decode b_F_wordOf 8 = .ok (.iconst (-1), 1) := by decide +kernel
theorem d_F_wordOf_9 : decode b_F_wordOf 9 = .ok (.goto 9, 3) := by decide +kernel
theorem d_F_wordOf_12 : decode b_F_wordOf 12 = .ok (.aload_n 0, 1) := by decide +kernel
theorem d_F_wordOf_13 : decode b_F_wordOf 13 = .ok (.getfield 9, 3) := by decide +kernel
theorem d_F_wordOf_16 : decode b_F_wordOf 16 = .ok (.iload_n 1, 1) := by decide +kernel
theorem d_F_wordOf_17 : decode b_F_wordOf 17 = .ok (.iaload, 1) := by decide +kernel
theorem d_F_wordOf_18 : decode b_F_wordOf 18 = .ok (.ireturn, 1) := by decide +kernel
theorem d_F_letterBy_0 : decode b_F_letterBy 0 = .ok (.aload_n 0, 1) := by decide +kernel
theorem d_F_letterBy_1 : decode b_F_letterBy 1 = .ok (.getfield 19, 3) := by decide +kernel
theorem d_F_letterBy_4 : decode b_F_letterBy 4 = .ok (.iload_n 1, 1) := by decide +kernel
theorem d_F_letterBy_5 : decode b_F_letterBy 5 = .ok (.iload_n 2, 1) := by decide +kernel
theorem d_F_letterBy_6 : decode b_F_letterBy 6 = .ok (.invokevirtual 42, 3) := by decide +kernel
theorem d_F_letterBy_9 : decode b_F_letterBy 9 = .ok (.istore_n 3, 1) := by decide +kernel
theorem d_F_letterBy_10 : decode b_F_letterBy 10 = .ok (.aload_n 0, 1) := by decide +kernel
theorem d_F_letterBy_11 : decode b_F_letterBy 11 = .ok (.getfield 15, 3) := by decide +kernel
theorem d_F_letterBy_14 : decode b_F_letterBy 14 = .ok (.iconst (-1), 1) := by decide +kernel
theorem d_F_letterBy_15 : decode b_F_letterBy 15 = .ok (.if_icmp .eq 8, 3) := by decide +kernel
theorem d_F_letterBy_18 : decode b_F_letterBy 18 = .ok (.iload_n 3, 1) := by decide +kernel
theorem d_F_letterBy_19 : decode b_F_letterBy 19 = .ok (.iconst (-1), 1) := by decide +kernel
theorem d_F_letterBy_20 : decode b_F_letterBy 20 = .ok (.if_icmp .ne 5, 3) := by decide +kernel
theorem d_F_letterBy_23 : decode b_F_letterBy 23 = .ok (.iconst 0, 1) := by decide +kernel
theorem d_F_letterBy_24 : decode b_F_letterBy 24 = .ok (.ireturn, 1) := by decide +kernel
theorem d_F_letterBy_25 : decode b_F_letterBy 25 = .ok (.aload_n 0, 1) := by decide +kernel
theorem d_F_letterBy_26 : decode b_F_letterBy 26 = .ok (.getfield 23, 3) := by decide +kernel
theorem d_F_letterBy_29 : decode b_F_letterBy 29 = .ok (.aload_n 0, 1) := by decide +kernel
theorem d_F_letterBy_30 : decode b_F_letterBy 30 = .ok (.getfield 9, 3) := by decide +kernel
theorem d_F_letterBy_33 : decode b_F_letterBy 33 = .ok (.iload_n 3, 1) := by decide +kernel
theorem d_F_letterBy_34 : decode b_F_letterBy 34 = .ok (.iaload, 1) := by decide +kernel
theorem d_F_letterBy_35 : decode b_F_letterBy 35 = .ok (.aload_n 0, 1) := by decide +kernel
theorem d_F_letterBy_36 : decode b_F_letterBy 36 = .ok (.getfield 19, 3) := by decide +kernel
theorem d_F_letterBy_39 : decode b_F_letterBy 39 = .ok (.iload_n 1, 1) := by decide +kernel
theorem d_F_letterBy_40 : decode b_F_letterBy 40 = .ok (.iload_n 2, 1) := by decide +kernel
theorem d_F_letterBy_41 : decode b_F_letterBy 41 = .ok (.invokevirtual 45, 3) := by decide +kernel
theorem d_F_letterBy_44 : decode b_F_letterBy 44 = .ok (.invokevirtual 48, 3) := by decide +kernel
theorem d_F_letterBy_47 : decode b_F_letterBy 47 = .ok (.ireturn, 1) := by decide +kernel
theorem d_F_letterAt_0 : decode b_F_letterAt 0 = .ok (.aload_n 0, 1) := by decide +kernel
theorem d_F_letterAt_1 : decode b_F_letterAt 1 = .ok (.iload_n 1, 1) := by decide +kernel
theorem d_F_letterAt_2 : decode b_F_letterAt 2 = .ok (.iconst 0, 1) := by decide +kernel
theorem d_F_letterAt_3 : decode b_F_letterAt 3 = .ok (.invokevirtual 38, 3) := by decide +kernel
theorem d_F_letterAt_6 : decode b_F_letterAt 6 = .ok (.istore_n 2, 1) := by decide +kernel
theorem d_F_letterAt_7 : decode b_F_letterAt 7 = .ok (.iload_n 2, 1) := by decide +kernel
theorem d_F_letterAt_8 : decode b_F_letterAt 8 = .ok (.ifCond .ne 12, 3) := by decide +kernel
theorem d_F_letterAt_11 : decode b_F_letterAt 11 = .ok (.aload_n 0, 1) := by decide +kernel
theorem d_F_letterAt_12 : decode b_F_letterAt 12 = .ok (.iload_n 1, 1) := by decide +kernel
theorem d_F_letterAt_13 : decode b_F_letterAt 13 = .ok (.iconst 1, 1) := by decide +kernel
theorem d_F_letterAt_14 : decode b_F_letterAt 14 = .ok (.invokevirtual 38, 3) := by decide +kernel
theorem d_F_letterAt_17 : decode b_F_letterAt 17 = .ok (.goto 4, 3) := by decide +kernel
theorem d_F_letterAt_20 : decode b_F_letterAt 20 = .ok (.iload_n 2, 1) := by decide +kernel
theorem d_F_letterAt_21 : decode b_F_letterAt 21 = .ok (.ireturn, 1) := by decide +kernel
theorem d_F_agrees_0 : decode b_F_agrees 0 = .ok (.iload_n 0, 1) := by decide +kernel
