theorem d_X_run_11 : decode b_X_run 11 = .ok (.iload_n 1, 1) := by decide +kernel
theorem d_X_run_12 : decode b_X_run 12 = .ok (.iconst 0, 1) := by decide +kernel
theorem d_X_run_13 : decode b_X_run 13 = .ok (.invokevirtual 111, 3) := by decide +kernel
theorem d_X_run_16 : decode b_X_run 16 = .ok (.goto 4, 3) := by decide +kernel
theorem d_X_run_19 : decode b_X_run 19 = .ok (.iconst (-1), 1) := by decide +kernel
theorem d_X_run_20 : decode b_X_run 20 = .ok (.ireturn, 1) := by decide +kernel
theorem d_X_best_0 : decode b_X_best 0 = .ok (.iload_n 1, 1) := by decide +kernel
theorem d_X_best_1 : decode b_X_best 1 = .ok (.invokestatic 108, 3) := by decide +kernel
theorem d_X_best_4 : decode b_X_best 4 = .ok (.ifCond .eq 15, 3) := by decide +kernel
theorem d_X_best_7 : decode b_X_best 7 = .ok (.aload_n 0, 1) := by decide +kernel
theorem d_X_best_8 : decode b_X_best 8 = .ok (.getfield 43, 3) := by decide +kernel
theorem d_X_best_11 : decode b_X_best 11 = .ok (.iload_n 1, 1) := by decide +kernel
theorem d_X_best_12 : decode b_X_best 12 = .ok (.iconst 1, 1) := by decide +kernel
theorem d_X_best_13 : decode b_X_best 13 = .ok (.invokevirtual 111, 3) := by decide +kernel
theorem d_X_best_16 : decode b_X_best 16 = .ok (.goto 4, 3) := by decide +kernel
theorem d_X_best_19 : decode b_X_best 19 = .ok (.iconst (-1), 1) := by decide +kernel
theorem d_X_best_20 : decode b_X_best 20 = .ok (.ireturn, 1) := by decide +kernel
theorem d_M_isCell_0 : decode b_M_isCell 0 = .ok (.iload_n 1, 1) := by decide +kernel
theorem d_M_isCell_1 : decode b_M_isCell 1 = .ok (.ifCond .lt 27, 3) := by decide +kernel
theorem d_M_isCell_4 : decode b_M_isCell 4 = .ok (.iload_n 1, 1) := by decide +kernel
theorem d_M_isCell_5 : decode b_M_isCell 5 = .ok (.aload_n 0, 1) := by decide +kernel
theorem d_M_isCell_6 : decode b_M_isCell 6 = .ok (.getfield 65, 3) := by decide +kernel
theorem d_M_isCell_9 : decode b_M_isCell 9 = .ok (.if_icmp .ge 19, 3) := by decide +kernel
theorem d_M_isCell_12 : decode b_M_isCell 12 = .ok (.iload_n 2, 1) := by decide +kernel
theorem d_M_isCell_13 : decode b_M_isCell 13 = .ok (.ifCond .lt 15, 3) := by decide +kernel
theorem d_M_isCell_16 : decode b_M_isCell 16 = .ok (.iload_n 2, 1) := by decide +kernel
theorem d_M_isCell_17 : decode b_M_isCell 17 = .ok (.aload_n 0, 1) := by decide +kernel
theorem d_M_isCell_18 : decode b_M_isCell 18 = .ok (.getfield 69, 3) := by decide +kernel
theorem d_M_isCell_21 : decode b_M_isCell 21 = .ok (.if_icmp .ge 7, 3) := by decide +kernel
theorem d_M_isCell_24 : decode b_M_isCell 24 = .ok (.iconst 1, 1) := by decide +kernel
theorem d_M_isCell_25 : decode b_M_isCell 25 = .ok (.goto 4, 3) := by decide +kernel
theorem d_M_isCell_28 : decode b_M_isCell 28 = .ok (.iconst 0, 1) := by decide +kernel
theorem d_M_isCell_29 : decode b_M_isCell 29 = .ok (.ireturn, 1) := by decide +kernel
theorem d_M_isOpen_0 : decode b_M_isOpen 0 = .ok (.aload_n 0, 1) := by decide +kernel
theorem d_M_isOpen_1 : decode b_M_isOpen 1 = .ok (.iload_n 1, 1) := by decide +kernel
theorem d_M_isOpen_2 : decode b_M_isOpen 2 = .ok (.iload_n 2, 1) := by decide +kernel
theorem d_M_isOpen_3 : decode b_M_isOpen 3 = .ok (.invokevirtual 78, 3) := by decide +kernel
theorem d_M_isOpen_6 : decode b_M_isOpen 6 = .ok (.ifCond .eq 23, 3) := by decide +kernel
theorem d_M_isOpen_9 : decode b_M_isOpen 9 = .ok (.aload_n 0, 1) := by decide +kernel
theorem d_M_isOpen_10 : decode b_M_isOpen 10 = .ok (.getfield 7, 3) := by decide +kernel
theorem d_M_isOpen_13 : decode b_M_isOpen 13 = .ok (.aload_n 0, 1) := by decide +kernel
theorem d_M_isOpen_14 : decode b_M_isOpen 14 = .ok (.getfield 65, 3) := by decide +kernel
theorem d_M_isOpen_17 : decode b_M_isOpen 17 = .ok (.iload_n 2, 1) := by decide +kernel
theorem d_M_isOpen_18 : decode b_M_isOpen 18 = .ok (.imul, 1) := by decide +kernel
theorem d_M_isOpen_19 : decode b_M_isOpen 19 = .ok (.iload_n 1, 1) := by decide +kernel
theorem d_M_isOpen_20 : decode b_M_isOpen 20 = .ok (.iadd, 1) := by decide +kernel
theorem d_M_isOpen_21 : decode b_M_isOpen 21 = .ok (.baload, 1) := by decide +kernel
theorem d_M_isOpen_22 : decode b_M_isOpen 22 = .ok (.ifCond .ne 7, 3) := by decide +kernel
theorem d_M_isOpen_25 : decode b_M_isOpen 25 = .ok (.iconst 1, 1) := by decide +kernel
theorem d_M_isOpen_26 : decode b_M_isOpen 26 = .ok (.goto 4, 3) := by decide +kernel
theorem d_M_isOpen_29 : decode b_M_isOpen 29 = .ok (.iconst 0, 1) := by decide +kernel
theorem d_M_isOpen_30 : decode b_M_isOpen 30 = .ok (.ireturn, 1) := by decide +kernel
theorem d_M_findSlots_0 : decode b_M_findSlots 0 = .ok (.aload_n 0, 1) := by decide +kernel
theorem d_M_findSlots_1 : decode b_M_findSlots 1 = .ok (.iconst 0, 1) := by decide +kernel
theorem d_M_findSlots_2 : decode b_M_findSlots 2 = .ok (.putfield 82, 3) := by decide +kernel
theorem d_M_findSlots_5 : decode b_M_findSlots 5 = .ok (.iconst 0, 1) := by decide +kernel
theorem d_M_findSlots_6 : decode b_M_findSlots 6 = .ok (.istore_n 1, 1) := by decide +kernel
theorem d_M_findSlots_7 : decode b_M_findSlots 7 = .ok (.iload_n 1, 1) := by decide +kernel
theorem d_M_findSlots_8 : decode b_M_findSlots 8 = .ok (.iconst 2, 1) := by decide +kernel
theorem d_M_findSlots_9 : decode b_M_findSlots 9 = .ok (.if_icmp .ge 174, 3) := by decide +kernel
theorem d_M_findSlots_12 : decode b_M_findSlots 12 = .ok (.aload_n 0, 1) := by decide +kernel
theorem d_M_findSlots_13 : decode b_M_findSlots 13 = .ok (.aload_n 0, 1) := by decide +kernel
theorem d_M_findSlots_14 : decode b_M_findSlots 14 = .ok (.getfield 82, 3) := by decide +kernel
theorem d_M_findSlots_17 : decode b_M_findSlots 17 = .ok (.putfield 85, 3) := by decide +kernel
theorem d_M_findSlots_20 : decode b_M_findSlots 20 = .ok (.iconst 0, 1) := by decide +kernel
theorem d_M_findSlots_21 : decode b_M_findSlots 21 = .ok (.istore_n 2, 1) := by decide +kernel
theorem d_M_findSlots_22 : decode b_M_findSlots 22 = .ok (.iload_n 2, 1) := by decide +kernel
theorem d_M_findSlots_23 : decode b_M_findSlots 23 = .ok (.aload_n 0, 1) := by decide +kernel
theorem d_M_findSlots_24 : decode b_M_findSlots 24 = .ok (.getfield 65, 3) := by decide +kernel
theorem d_M_findSlots_27 : decode b_M_findSlots 27 = .ok (.aload_n 0, 1) := by decide +kernel
theorem d_M_findSlots_28 : decode b_M_findSlots 28 = .ok (.getfield 69, 3) := by decide +kernel
theorem d_M_findSlots_31 : decode b_M_findSlots 31 = .ok (.imul, 1) := by decide +kernel
theorem d_M_findSlots_32 : decode b_M_findSlots 32 = .ok (.if_icmp .ge 145, 3) := by decide +kernel
theorem d_M_findSlots_35 : decode b_M_findSlots 35 = .ok (.iload_n 2, 1) := by decide +kernel
theorem d_M_findSlots_36 : decode b_M_findSlots 36 = .ok (.aload_n 0, 1) := by decide +kernel
theorem d_M_findSlots_37 : decode b_M_findSlots 37 = .ok (.getfield 65, 3) := by decide +kernel
theorem d_M_findSlots_40 : decode b_M_findSlots 40 = .ok (.irem, 1) := by decide +kernel
theorem d_M_findSlots_41 : decode b_M_findSlots 41 = .ok (.istore_n 3, 1) := by decide +kernel
theorem d_M_findSlots_42 : decode b_M_findSlots 42 = .ok (.iload_n 2, 1) := by decide +kernel
theorem d_M_findSlots_43 : decode b_M_findSlots 43 = .ok (.aload_n 0, 1) := by decide +kernel
theorem d_M_findSlots_44 : decode b_M_findSlots 44 = .ok (.getfield 65, 3) := by decide +kernel
theorem d_M_findSlots_47 : decode b_M_findSlots 47 = .ok (.idiv, 1) := by decide +kernel
theorem d_M_findSlots_48 : decode b_M_findSlots 48 = .ok (.istore 4, 2) := by decide +kernel
theorem d_M_findSlots_50 : decode b_M_findSlots 50 = .ok (.iconst 1, 1) := by decide +kernel
theorem d_M_findSlots_51 : decode b_M_findSlots 51 = .ok (.iload_n 1, 1) := by decide +kernel
theorem d_M_findSlots_52 : decode b_M_findSlots 52 = .ok (.isub, 1) := by decide +kernel
theorem d_M_findSlots_53 : decode b_M_findSlots 53 = .ok (.istore 5, 2) := by decide +kernel
theorem d_M_findSlots_55 : decode b_M_findSlots 55 = .ok (.iconst 0, 1) := by decide +kernel
theorem d_M_findSlots_56 : decode b_M_findSlots 56 = .ok (.istore 6, 2) := by decide +kernel
theorem d_M_findSlots_58 : decode b_M_findSlots 58 = .ok (.aload_n 0, 1) := by decide +kernel
theorem d_M_findSlots_59 : decode b_M_findSlots 59 = .ok (.iload_n 3, 1) := by decide +kernel
theorem d_M_findSlots_60 : decode b_M_findSlots 60 = .ok (.iload 6, 2) := by decide +kernel
theorem d_M_findSlots_62 : decode b_M_findSlots 62 = .ok (.iload 5, 2) := by decide +kernel
theorem d_M_findSlots_64 : decode b_M_findSlots 64 = .ok (.imul, 1) := by decide +kernel
theorem d_M_findSlots_65 : decode b_M_findSlots 65 = .ok (.iadd, 1) := by decide +kernel
theorem d_M_findSlots_66 : decode b_M_findSlots 66 = .ok (.iload 4, 2) := by decide +kernel
theorem d_M_findSlots_68 : decode b_M_findSlots 68 = .ok (.iload 6, 2) := by decide +kernel
theorem d_M_findSlots_70 : decode b_M_findSlots 70 = .ok (.iload_n 1, 1) := by decide +kernel
theorem d_M_findSlots_71 : decode b_M_findSlots 71 = .ok (.imul, 1) := by decide +kernel
theorem d_M_findSlots_72 : decode b_M_findSlots 72 = .ok (.iadd, 1) := by decide +kernel
theorem d_M_findSlots_73 : decode b_M_findSlots 73 = .ok (.invokevirtual 88, 3) := by decide +kernel
theorem d_M_findSlots_76 : decode b_M_findSlots 76 = .ok (.ifCond .eq 9, 3) := by decide +kernel
theorem d_M_findSlots_79 : decode b_M_findSlots 79 = .ok (.iinc 6 1, 3) := by decide +kernel
theorem d_M_findSlots_82 : decode b_M_findSlots 82 = .ok (.goto (-24), 3) := by decide +kernel
theorem d_M_findSlots_85 : decode b_M_findSlots 85 = .ok (.iload 6, 2) := by decide +kernel
theorem d_M_findSlots_87 : decode b_M_findSlots 87 = .ok (.iconst 2, 1) := by decide +kernel
theorem d_M_findSlots_88 : decode b_M_findSlots 88 = .ok (.if_icmp .lt 83, 3) := by decide +kernel
theorem d_M_findSlots_91 : decode b_M_findSlots 91 = .ok (.aload_n 0, 1) := by decide +kernel
theorem d_M_findSlots_92 : decode b_M_findSlots 92 = .ok (.iload_n 3, 1) := by decide +kernel
theorem d_M_findSlots_93 : decode b_M_findSlots 93 = .ok (.iload 5, 2) := by decide +kernel
theorem d_M_findSlots_95 : decode b_M_findSlots 95 = .ok (.isub, 1) := by decide +kernel
theorem d_M_findSlots_96 : decode b_M_findSlots 96 = .ok (.iload 4, 2) := by decide +kernel
theorem d_M_findSlots_98 : decode b_M_findSlots 98 = .ok (.iload_n 1, 1) := by decide +kernel
theorem d_M_findSlots_99 : decode b_M_findSlots 99 = .ok (.isub, 1) := by decide +kernel
theorem d_M_findSlots_100 : decode b_M_findSlots 100 = .ok (.invokevirtual 88, 3) := by decide +kernel
theorem d_M_findSlots_103 : decode b_M_findSlots 103 = .ok (.ifCond .eq 6, 3) := by decide +kernel
theorem d_M_findSlots_106 : decode b_M_findSlots 106 = .ok (.goto 65, 3) := by decide +kernel
theorem d_M_findSlots_109 : decode b_M_findSlots 109 = .ok (.aload_n 0, 1) := by decide +kernel
theorem d_M_findSlots_110 : decode b_M_findSlots 110 = .ok (.getfield 29, 3) := by decide +kernel
theorem d_M_findSlots_113 : decode b_M_findSlots 113 = .ok (.aload_n 0, 1) := by decide +kernel
theorem d_M_findSlots_114 : decode b_M_findSlots 114 = .ok (.getfield 82, 3) := by decide +kernel
theorem d_M_findSlots_117 : decode b_M_findSlots 117 = .ok (.iload_n 2, 1) := by decide +kernel
theorem d_M_findSlots_118 : decode b_M_findSlots 118 = .ok (.iastore, 1) := by decide +kernel
theorem d_M_findSlots_119 : decode b_M_findSlots 119 = .ok (.aload_n 0, 1) := by decide +kernel
theorem d_M_findSlots_120 : decode b_M_findSlots 120 = .ok (.getfield 32, 3) := by decide +kernel
theorem d_M_findSlots_123 : decode b_M_findSlots 123 = .ok (.aload_n 0, 1) := by decide +kernel
theorem d_M_findSlots_124 : decode b_M_findSlots 124 = .ok (.getfield 82, 3) := by decide +kernel
theorem d_M_findSlots_127 : decode b_M_findSlots 127 = .ok (.iload 6, 2) := by decide +kernel
theorem d_M_findSlots_129 : decode b_M_findSlots 129 = .ok (.iastore, 1) := by decide +kernel
theorem d_M_findSlots_130 : decode b_M_findSlots 130 = .ok (.aload_n 0, 1) := by decide +kernel
theorem d_M_findSlots_131 : decode b_M_findSlots 131 = .ok (.getfield 35, 3) := by decide +kernel
theorem d_M_findSlots_134 : decode b_M_findSlots 134 = .ok (.aload_n 0, 1) := by decide +kernel
theorem d_M_findSlots_135 : decode b_M_findSlots 135 = .ok (.getfield 82, 3) := by decide +kernel
theorem d_M_findSlots_138 : decode b_M_findSlots 138 = .ok (.iload_n 1, 1) := by decide +kernel
theorem d_M_findSlots_139 : decode b_M_findSlots 139 = .ok (.ifCond .ne 7, 3) := by decide +kernel
theorem d_M_findSlots_142 : decode b_M_findSlots 142 = .ok (.iconst 1, 1) := by decide +kernel
theorem d_M_findSlots_143 : decode b_M_findSlots 143 = .ok (.goto 7, 3) := by decide +kernel
theorem d_M_findSlots_146 : decode b_M_findSlots 146 = .ok (.aload_n 0, 1) := by decide +kernel
theorem d_M_findSlots_147 : decode b_M_findSlots 147 = .ok (.getfield 65, 3) := by decide +kernel
theorem d_M_findSlots_150 : decode b_M_findSlots 150 = .ok (.iastore, 1) := by decide +kernel
theorem d_M_findSlots_151 : decode b_M_findSlots 151 = .ok (.aload_n 0, 1) := by decide +kernel
theorem d_M_findSlots_152 : decode b_M_findSlots 152 = .ok (.getfield 38, 3) := by decide +kernel
theorem d_M_findSlots_155 : decode b_M_findSlots 155 = .ok (.aload_n 0, 1) := by decide +kernel
theorem d_M_findSlots_156 : decode b_M_findSlots 156 = .ok (.getfield 82, 3) := by decide +kernel
theorem d_M_findSlots_159 : decode b_M_findSlots 159 = .ok (.iconst (-1), 1) := by decide +kernel
theorem d_M_findSlots_160 : decode b_M_findSlots 160 = .ok (.iastore, 1) := by decide +kernel
theorem d_M_findSlots_161 : decode b_M_findSlots 161 = .ok (.aload_n 0, 1) := by decide +kernel
theorem d_M_findSlots_162 : decode b_M_findSlots 162 = .ok (.dup, 1) := by decide +kernel
theorem d_M_findSlots_163 : decode b_M_findSlots 163 = .ok (.getfield 82, 3) := by decide +kernel
theorem d_M_findSlots_166 : decode b_M_findSlots 166 = .ok (.iconst 1, 1) := by decide +kernel
theorem d_M_findSlots_167 : decode b_M_findSlots 167 = .ok (.iadd, 1) := by decide +kernel
theorem d_M_findSlots_168 : decode b_M_findSlots 168 = .ok (.putfield 82, 3) := by decide +kernel
theorem d_M_findSlots_171 : decode b_M_findSlots 171 = .ok (.iinc 2 1, 3) := by decide +kernel
theorem d_M_findSlots_174 : decode b_M_findSlots 174 = .ok (.goto (-152), 3) := by decide +kernel
theorem d_M_findSlots_177 : decode b_M_findSlots 177 = .ok (.iinc 1 1, 3) := by decide +kernel
theorem d_M_findSlots_180 : decode b_M_findSlots 180 = .ok (.goto (-173), 3) := by decide +kernel
theorem d_M_findSlots_183 : decode b_M_findSlots 183 = .ok (.return_, 1) := by decide +kernel
theorem d_M_black_0 : decode b_M_black 0 = .ok (.aload_n 0, 1) := by decide +kernel
theorem d_M_black_1 : decode b_M_black 1 = .ok (.iconst 0, 1) := by decide +kernel
theorem d_M_black_2 : decode b_M_black 2 = .ok (.putfield 75, 3) := by decide +kernel
theorem d_M_black_5 : decode b_M_black 5 = .ok (.aload_n 0, 1) := by decide +kernel
theorem d_M_black_6 : decode b_M_black 6 = .ok (.iload_n 1, 1) := by decide +kernel
theorem d_M_black_7 : decode b_M_black 7 = .ok (.iload_n 2, 1) := by decide +kernel
theorem d_M_black_8 : decode b_M_black 8 = .ok (.invokevirtual 78, 3) := by decide +kernel
theorem d_M_black_11 : decode b_M_black 11 = .ok (.ifCond .eq 20, 3) := by decide +kernel
theorem d_M_black_14 : decode b_M_black 14 = .ok (.aload_n 0, 1) := by decide +kernel
theorem d_M_black_15 : decode b_M_black 15 = .ok (.getfield 7, 3) := by decide +kernel
theorem d_M_black_18 : decode b_M_black 18 = .ok (.aload_n 0, 1) := by decide +kernel
theorem d_M_black_19 : decode b_M_black 19 = .ok (.getfield 65, 3) := by decide +kernel
theorem d_M_black_22 : decode b_M_black 22 = .ok (.iload_n 2, 1) := by decide +kernel
theorem d_M_black_23 : decode b_M_black 23 = .ok (.imul, 1) := by decide +kernel
theorem d_M_black_24 : decode b_M_black 24 = .ok (.iload_n 1, 1) := by decide +kernel
theorem d_M_black_25 : decode b_M_black 25 = .ok (.iadd, 1) := by decide +kernel
theorem d_M_black_26 : decode b_M_black 26 = .ok (.baload, 1) := by decide +kernel
theorem d_M_black_27 : decode b_M_black 27 = .ok (.iload_n 3, 1) := by decide +kernel
theorem d_M_black_28 : decode b_M_black 28 = .ok (.if_icmp .ne 5, 3) := by decide +kernel
theorem d_M_black_31 : decode b_M_black 31 = .ok (.iconst 0, 1) := by decide +kernel
theorem d_M_black_32 : decode b_M_black 32 = .ok (.ireturn, 1) := by decide +kernel
theorem d_M_black_33 : decode b_M_black 33 = .ok (.aload_n 0, 1) := by decide +kernel
theorem d_M_black_34 : decode b_M_black 34 = .ok (.getfield 7, 3) := by decide +kernel
theorem d_M_black_37 : decode b_M_black 37 = .ok (.aload_n 0, 1) := by decide +kernel
theorem d_M_black_38 : decode b_M_black 38 = .ok (.getfield 65, 3) := by decide +kernel
theorem d_M_black_41 : decode b_M_black 41 = .ok (.iload_n 2, 1) := by decide +kernel
theorem d_M_black_42 : decode b_M_black 42 = .ok (.imul, 1) := by decide +kernel
theorem d_M_black_43 : decode b_M_black 43 = .ok (.iload_n 1, 1) := by decide +kernel
theorem d_M_black_44 : decode b_M_black 44 = .ok (.iadd, 1) := by decide +kernel
theorem d_M_black_45 : decode b_M_black 45 = .ok (.iload_n 3, 1) := by decide +kernel
theorem d_M_black_46 : decode b_M_black 46 = .ok (.bastore, 1) := by decide +kernel
theorem d_M_black_47 : decode b_M_black 47 = .ok (.iconst 0, 1) := by decide +kernel
theorem d_M_black_48 : decode b_M_black 48 = .ok (.istore 4, 2) := by decide +kernel
theorem d_M_black_50 : decode b_M_black 50 = .ok (.iload 4, 2) := by decide +kernel
theorem d_M_black_52 : decode b_M_black 52 = .ok (.bipush 36, 2) := by decide +kernel
theorem d_M_black_54 : decode b_M_black 54 = .ok (.if_icmp .ge 17, 3) := by decide +kernel
theorem d_M_black_57 : decode b_M_black 57 = .ok (.aload_n 0, 1) := by decide +kernel
theorem d_M_black_58 : decode b_M_black 58 = .ok (.getfield 13, 3) := by decide +kernel
theorem d_M_black_61 : decode b_M_black 61 = .ok (.iload 4, 2) := by decide +kernel
theorem d_M_black_63 : decode b_M_black 63 = .ok (.iconst 0, 1) := by decide +kernel
theorem d_M_black_64 : decode b_M_black 64 = .ok (.iastore, 1) := by decide +kernel
theorem d_M_black_65 : decode b_M_black 65 = .ok (.iinc 4 1, 3) := by decide +kernel
theorem d_M_black_68 : decode b_M_black 68 = .ok (.goto (-18), 3) := by decide +kernel
theorem d_M_black_71 : decode b_M_black 71 = .ok (.aload_n 0, 1) := by decide +kernel
theorem d_M_black_72 : decode b_M_black 72 = .ok (.iconst 0, 1) := by decide +kernel
theorem d_M_black_73 : decode b_M_black 73 = .ok (.putfield 91, 3) := by decide +kernel
theorem d_M_black_76 : decode b_M_black 76 = .ok (.aload_n 0, 1) := by decide +kernel
theorem d_M_black_77 : decode b_M_black 77 = .ok (.invokevirtual 72, 3) := by decide +kernel
theorem d_M_black_80 : decode b_M_black 80 = .ok (.iconst 1, 1) := by decide +kernel
theorem d_M_black_81 : decode b_M_black 81 = .ok (.ireturn, 1) := by decide +kernel
theorem d_M_isSlot_0 : decode b_M_isSlot 0 = .ok (.iload_n 1, 1) := by decide +kernel
theorem d_M_isSlot_1 : decode b_M_isSlot 1 = .ok (.ifCond .lt 15, 3) := by decide +kernel
theorem d_M_isSlot_4 : decode b_M_isSlot 4 = .ok (.iload_n 1, 1) := by decide +kernel
theorem d_M_isSlot_5 : decode b_M_isSlot 5 = .ok (.aload_n 0, 1) := by decide +kernel
theorem d_M_isSlot_6 : decode b_M_isSlot 6 = .ok (.getfield 82, 3) := by decide +kernel
theorem d_M_isSlot_9 : decode b_M_isSlot 9 = .ok (.if_icmp .ge 7, 3) := by decide +kernel
theorem d_M_isSlot_12 : decode b_M_isSlot 12 = .ok (.iconst 1, 1) := by decide +kernel
theorem d_M_isSlot_13 : decode b_M_isSlot 13 = .ok (.goto 4, 3) := by decide +kernel
theorem d_M_isSlot_16 : decode b_M_isSlot 16 = .ok (.iconst 0, 1) := by decide +kernel
theorem d_M_isSlot_17 : decode b_M_isSlot 17 = .ok (.ireturn, 1) := by decide +kernel
theorem d_M_cellOf_0 : decode b_M_cellOf 0 = .ok (.aload_n 0, 1) := by decide +kernel
theorem d_M_cellOf_1 : decode b_M_cellOf 1 = .ok (.getfield 29, 3) := by decide +kernel
theorem d_M_cellOf_4 : decode b_M_cellOf 4 = .ok (.iload_n 1, 1) := by decide +kernel
theorem d_M_cellOf_5 : decode b_M_cellOf 5 = .ok (.iaload, 1) := by decide +kernel
theorem d_M_cellOf_6 : decode b_M_cellOf 6 = .ok (.iload_n 2, 1) := by decide +kernel
theorem d_M_cellOf_7 : decode b_M_cellOf 7 = .ok (.aload_n 0, 1) := by decide +kernel
theorem d_M_cellOf_8 : decode b_M_cellOf 8 = .ok (.getfield 35, 3) := by decide +kernel
theorem d_M_cellOf_11 : decode b_M_cellOf 11 = .ok (.iload_n 1, 1) := by decide +kernel
theorem d_M_cellOf_12 : decode b_M_cellOf 12 = .ok (.iaload, 1) := by decide +kernel
theorem d_M_cellOf_13 : decode b_M_cellOf 13 = .ok (.imul, 1) := by decide +kernel
theorem d_M_cellOf_14 : decode b_M_cellOf 14 = .ok (.iadd, 1) := by decide +kernel
theorem d_M_cellOf_15 : decode b_M_cellOf 15 = .ok (.ireturn, 1) := by decide +kernel
theorem d_M_isLetter_0 : decode b_M_isLetter 0 = .ok (.iload_n 0, 1) := by decide +kernel
theorem d_M_isLetter_1 : decode b_M_isLetter 1 = .ok (.bipush 97, 2) := by decide +kernel
theorem d_M_isLetter_3 : decode b_M_isLetter 3 = .ok (.if_icmp .lt 13, 3) := by decide +kernel
theorem d_M_isLetter_6 : decode b_M_isLetter 6 = .ok (.iload_n 0, 1) := by decide +kernel
theorem d_M_isLetter_7 : decode b_M_isLetter 7 = .ok (.bipush 122, 2) := by decide +kernel
theorem d_M_isLetter_9 : decode b_M_isLetter 9 = .ok (.if_icmp .gt 7, 3) := by decide +kernel
theorem d_M_isLetter_12 : decode b_M_isLetter 12 = .ok (.iconst 1, 1) := by decide +kernel
theorem d_M_isLetter_13 : decode b_M_isLetter 13 = .ok (.goto 4, 3) := by decide +kernel
theorem d_M_isLetter_16 : decode b_M_isLetter 16 = .ok (.iconst 0, 1) := by decide +kernel
theorem d_M_isLetter_17 : decode b_M_isLetter 17 = .ok (.ireturn, 1) := by decide +kernel
theorem d_M_unit_0 : decode b_M_unit 0 = .ok (.aload_n 0, 1) := by decide +kernel
theorem d_M_unit_1 : decode b_M_unit 1 = .ok (.iconst 0, 1) := by decide +kernel
theorem d_M_unit_2 : decode b_M_unit 2 = .ok (.putfield 75, 3) := by decide +kernel
theorem d_M_unit_5 : decode b_M_unit 5 = .ok (.iload_n 1, 1) := by decide +kernel
theorem d_M_unit_6 : decode b_M_unit 6 = .ok (.invokestatic 95, 3) := by decide +kernel
theorem d_M_unit_9 : decode b_M_unit 9 = .ok (.ifCond .eq 12, 3) := by decide +kernel
theorem d_M_unit_12 : decode b_M_unit 12 = .ok (.aload_n 0, 1) := by decide +kernel
theorem d_M_unit_13 : decode b_M_unit 13 = .ok (.getfield 99, 3) := by decide +kernel
theorem d_M_unit_16 : decode b_M_unit 16 = .ok (.bipush 6, 2) := by decide +kernel
theorem d_M_unit_18 : decode b_M_unit 18 = .ok (.if_icmp .ne 5, 3) := by decide +kernel
theorem d_M_unit_21 : decode b_M_unit 21 = .ok (.iconst 0, 1) := by decide +kernel
theorem d_M_unit_22 : decode b_M_unit 22 = .ok (.ireturn, 1) := by decide +kernel
theorem d_M_unit_23 : decode b_M_unit 23 = .ok (.aload_n 0, 1) := by decide +kernel
theorem d_M_unit_24 : decode b_M_unit 24 = .ok (.getfield 17, 3) := by decide +kernel
theorem d_M_unit_27 : decode b_M_unit 27 = .ok (.aload_n 0, 1) := by decide +kernel
theorem d_M_unit_28 : decode b_M_unit 28 = .ok (.getfield 99, 3) := by decide +kernel
theorem d_M_unit_31 : decode b_M_unit 31 = .ok (.iload_n 1, 1) := by decide +kernel
theorem d_M_unit_32 : decode b_M_unit 32 = .ok (.iastore, 1) := by decide +kernel
theorem d_M_unit_33 : decode b_M_unit 33 = .ok (.aload_n 0, 1) := by decide +kernel
theorem d_M_unit_34 : decode b_M_unit 34 = .ok (.dup, 1) := by decide +kernel
theorem d_M_unit_35 : decode b_M_unit 35 = .ok (.getfield 99, 3) := by decide +kernel
theorem d_M_unit_38 : decode b_M_unit 38 = .ok (.iconst 1, 1) := by decide +kernel
theorem d_M_unit_39 : decode b_M_unit 39 = .ok (.iadd, 1) := by decide +kernel
theorem d_M_unit_40 : decode b_M_unit 40 = .ok (.putfield 99, 3) := by decide +kernel
theorem d_M_unit_43 : decode b_M_unit 43 = .ok (.iconst 1, 1) := by decide +kernel
theorem d_M_unit_44 : decode b_M_unit 44 = .ok (.ireturn, 1) := by decide +kernel
theorem d_M_isRow_0 : decode b_M_isRow 0 = .ok (.aload_n 0, 1) := by decide +kernel
theorem d_M_isRow_1 : decode b_M_isRow 1 = .ok (.getfield 20, 3) := by decide +kernel
theorem d_M_isRow_4 : decode b_M_isRow 4 = .ok (.iload_n 1, 1) := by decide +kernel
theorem d_M_isRow_5 : decode b_M_isRow 5 = .ok (.iaload, 1) := by decide +kernel
theorem d_M_isRow_6 : decode b_M_isRow 6 = .ok (.aload_n 0, 1) := by decide +kernel
theorem d_M_isRow_7 : decode b_M_isRow 7 = .ok (.getfield 99, 3) := by decide +kernel
theorem d_M_isRow_10 : decode b_M_isRow 10 = .ok (.if_icmp .eq 5, 3) := by decide +kernel
theorem d_M_isRow_13 : decode b_M_isRow 13 = .ok (.iconst 0, 1) := by decide +kernel
theorem d_M_isRow_14 : decode b_M_isRow 14 = .ok (.ireturn, 1) := by decide +kernel
theorem d_M_isRow_15 : decode b_M_isRow 15 = .ok (.iconst 0, 1) := by decide +kernel
theorem d_M_isRow_16 : decode b_M_isRow 16 = .ok (.istore_n 2, 1) := by decide +kernel
theorem d_M_isRow_17 : decode b_M_isRow 17 = .ok (.iload_n 2, 1) := by decide +kernel
theorem d_M_isRow_18 : decode b_M_isRow 18 = .ok (.aload_n 0, 1) := by decide +kernel
theorem d_M_isRow_19 : decode b_M_isRow 19 = .ok (.getfield 99, 3) := by decide +kernel
theorem d_M_isRow_22 : decode b_M_isRow 22 = .ok (.if_icmp .ge 31, 3) := by decide +kernel
theorem d_M_isRow_25 : decode b_M_isRow 25 = .ok (.aload_n 0, 1) := by decide +kernel
theorem d_M_isRow_26 : decode b_M_isRow 26 = .ok (.getfield 23, 3) := by decide +kernel
theorem d_M_isRow_29 : decode b_M_isRow 29 = .ok (.bipush 6, 2) := by decide +kernel
theorem d_M_isRow_31 : decode b_M_isRow 31 = .ok (.iload_n 1, 1) := by decide +kernel
theorem d_M_isRow_32 : decode b_M_isRow 32 = .ok (.imul, 1) := by decide +kernel
theorem d_M_isRow_33 : decode b_M_isRow 33 = .ok (.iload_n 2, 1) := by decide +kernel
theorem d_M_isRow_34 : decode b_M_isRow 34 = .ok (.iadd, 1) := by decide +kernel
theorem d_M_isRow_35 : decode b_M_isRow 35 = .ok (.iaload, 1) := by decide +kernel
theorem d_M_isRow_36 : decode b_M_isRow 36 = .ok (.aload_n 0, 1) := by decide +kernel
theorem d_M_isRow_37 : decode b_M_isRow 37 = .ok (.getfield 17, 3) := by decide +kernel
theorem d_M_isRow_40 : decode b_M_isRow 40 = .ok (.iload_n 2, 1) := by decide +kernel
theorem d_M_isRow_41 : decode b_M_isRow 41 = .ok (.iaload, 1) := by decide +kernel
theorem d_M_isRow_42 : decode b_M_isRow 42 = .ok (.if_icmp .eq 5, 3) := by decide +kernel
theorem d_M_isRow_45 : decode b_M_isRow 45 = .ok (.iconst 0, 1) := by decide +kernel
theorem d_M_isRow_46 : decode b_M_isRow 46 = .ok (.ireturn, 1) := by decide +kernel
theorem d_M_isRow_47 : decode b_M_isRow 47 = .ok (.iinc 2 1, 3) := by decide +kernel
theorem d_M_isRow_50 : decode b_M_isRow 50 = .ok (.goto (-33), 3) := by decide +kernel
theorem d_M_isRow_53 : decode b_M_isRow 53 = .ok (.iconst 1, 1) := by decide +kernel
theorem d_M_isRow_54 : decode b_M_isRow 54 = .ok (.ireturn, 1) := by decide +kernel
theorem d_M_enter_0 : decode b_M_enter 0 = .ok (.aload_n 0, 1) := by decide +kernel
theorem d_M_enter_1 : decode b_M_enter 1 = .ok (.getfield 99, 3) := by decide +kernel
theorem d_M_enter_4 : decode b_M_enter 4 = .ok (.iconst 2, 1) := by decide +kernel
theorem d_M_enter_5 : decode b_M_enter 5 = .ok (.if_icmp .lt 23, 3) := by decide +kernel
theorem d_M_enter_8 : decode b_M_enter 8 = .ok (.iload_n 1, 1) := by decide +kernel
theorem d_M_enter_9 : decode b_M_enter 9 = .ok (.ifCond .lt 19, 3) := by decide +kernel
theorem d_M_enter_12 : decode b_M_enter 12 = .ok (.iload_n 1, 1) := by decide +kernel
theorem d_M_enter_13 : decode b_M_enter 13 = .ok (.sipush 1000, 3) := by decide +kernel
theorem d_M_enter_16 : decode b_M_enter 16 = .ok (.if_icmp .gt 12, 3) := by decide +kernel
theorem d_M_enter_19 : decode b_M_enter 19 = .ok (.aload_n 0, 1) := by decide +kernel
theorem d_M_enter_20 : decode b_M_enter 20 = .ok (.getfield 102, 3) := by decide +kernel
theorem d_M_enter_23 : decode b_M_enter 23 = .ok (.bipush 80, 2) := by decide +kernel
theorem d_M_enter_25 : decode b_M_enter 25 = .ok (.if_icmp .ne 5, 3) := by decide +kernel
theorem d_M_enter_28 : decode b_M_enter 28 = .ok (.iconst (-1), 1) := by decide +kernel
theorem d_M_enter_29 : decode b_M_enter 29 = .ok (.ireturn, 1) := by decide +kernel
theorem d_M_enter_30 : decode b_M_enter 30 = .ok (.iconst 0, 1) := by decide +kernel
theorem d_M_enter_31 : decode b_M_enter 31 = .ok (.istore_n 2, 1) := by decide +kernel
theorem d_M_enter_32 : decode b_M_enter 32 = .ok (.iload_n 2, 1) := by decide +kernel
theorem d_M_enter_33 : decode b_M_enter 33 = .ok (.aload_n 0, 1) := by decide +kernel
theorem d_M_enter_34 : decode b_M_enter 34 = .ok (.getfield 102, 3) := by decide +kernel
theorem d_M_enter_37 : decode b_M_enter 37 = .ok (.if_icmp .ge 19, 3) := by decide +kernel
theorem d_M_enter_40 : decode b_M_enter 40 = .ok (.aload_n 0, 1) := by decide +kernel
theorem d_M_enter_41 : decode b_M_enter 41 = .ok (.iload_n 2, 1) := by decide +kernel
theorem d_M_enter_42 : decode b_M_enter 42 = .ok (.invokevirtual 105, 3) := by decide +kernel
theorem d_M_enter_45 : decode b_M_enter 45 = .ok (.ifCond .eq 5, 3) := by decide +kernel
theorem d_M_enter_48 : decode b_M_enter 48 = .ok (.iconst (-1), 1) := by decide +kernel
theorem d_M_enter_49 : decode b_M_enter 49 = .ok (.ireturn, 1) := by decide +kernel
theorem d_M_enter_50 : decode b_M_enter 50 = .ok (.iinc 2 1, 3) := by decide +kernel
theorem d_M_enter_53 : decode b_M_enter 53 = .ok (.goto (-21), 3) := by decide +kernel
theorem d_M_enter_56 : decode b_M_enter 56 = .ok (.iconst 0, 1) := by decide +kernel
theorem d_M_enter_57 : decode b_M_enter 57 = .ok (.istore_n 2, 1) := by decide +kernel
theorem d_M_enter_58 : decode b_M_enter 58 = .ok (.iload_n 2, 1) := by decide +kernel
theorem d_M_enter_59 : decode b_M_enter 59 = .ok (.aload_n 0, 1) := by decide +kernel
theorem d_M_enter_60 : decode b_M_enter 60 = .ok (.getfield 99, 3) := by decide +kernel
theorem d_M_enter_63 : decode b_M_enter 63 = .ok (.if_icmp .ge 29, 3) := by decide +kernel
theorem d_M_enter_66 : decode b_M_enter 66 = .ok (.aload_n 0, 1) := by decide +kernel
theorem d_M_enter_67 : decode b_M_enter 67 = .ok (.getfield 23, 3) := by decide +kernel
theorem d_M_enter_70 : decode b_M_enter 70 = .ok (.bipush 6, 2) := by decide +kernel
theorem d_M_enter_72 : decode b_M_enter 72 = .ok (.aload_n 0, 1) := by decide +kernel
theorem d_M_enter_73 : decode b_M_enter 73 = .ok (.getfield 102, 3) := by decide +kernel
theorem d_M_enter_76 : decode b_M_enter 76 = .ok (.imul, 1) := by decide +kernel
theorem d_M_enter_77 : decode b_M_enter 77 = .ok (.iload_n 2, 1) := by decide +kernel
theorem d_M_enter_78 : decode b_M_enter 78 = .ok (.iadd, 1) := by decide +kernel
theorem d_M_enter_79 : decode b_M_enter 79 = .ok (.aload_n 0, 1) := by decide +kernel
theorem d_M_enter_80 : decode b_M_enter 80 = .ok (.getfield 17, 3) := by decide +kernel
theorem d_M_enter_83 : decode b_M_enter 83 = .ok (.iload_n 2, 1) := by decide +kernel
theorem d_M_enter_84 : decode b_M_enter 84 = .ok (.iaload, 1) := by decide +kernel
theorem d_M_enter_85 : decode b_M_enter 85 = .ok (.iastore, 1) := by decide +kernel
theorem d_M_enter_86 : decode b_M_enter 86 = .ok (.iinc 2 1, 3) := by decide +kernel
theorem d_M_enter_89 : decode b_M_enter 89 = .ok (.goto (-31), 3) := by decide +kernel
theorem d_M_enter_92 : decode b_M_enter 92 = .ok (.aload_n 0, 1) := by decide +kernel
theorem d_M_enter_93 : decode b_M_enter 93 = .ok (.getfield 20, 3) := by decide +kernel
theorem d_M_enter_96 : decode b_M_enter 96 = .ok (.aload_n 0, 1) := by decide +kernel
theorem d_M_enter_97 : decode b_M_enter 97 = .ok (.getfield 102, 3) := by decide +kernel
theorem d_M_enter_100 : decode b_M_enter 100 = .ok (.aload_n 0, 1) := by decide +kernel
theorem d_M_enter_101 : decode b_M_enter 101 = .ok (.getfield 99, 3) := by decide +kernel
theorem d_M_enter_104 : decode b_M_enter 104 = .ok (.iastore, 1) := by decide +kernel
theorem d_M_enter_105 : decode b_M_enter 105 = .ok (.aload_n 0, 1) := by decide +kernel
theorem d_M_enter_106 : decode b_M_enter 106 = .ok (.getfield 26, 3) := by decide +kernel
theorem d_M_enter_109 : decode b_M_enter 109 = .ok (.aload_n 0, 1) := by decide +kernel
theorem d_M_enter_110 : decode b_M_enter 110 = .ok (.getfield 102, 3) := by decide +kernel
theorem d_M_enter_113 : decode b_M_enter 113 = .ok (.iload_n 1, 1) := by decide +kernel
theorem d_M_enter_114 : decode b_M_enter 114 = .ok (.iastore, 1) := by decide +kernel
theorem d_M_enter_115 : decode b_M_enter 115 = .ok (.aload_n 0, 1) := by decide +kernel
theorem d_M_enter_116 : decode b_M_enter 116 = .ok (.dup, 1) := by decide +kernel
theorem d_M_enter_117 : decode b_M_enter 117 = .ok (.getfield 102, 3) := by decide +kernel
theorem d_M_enter_120 : decode b_M_enter 120 = .ok (.iconst 1, 1) := by decide +kernel
theorem d_M_enter_121 : decode b_M_enter 121 = .ok (.iadd, 1) := by decide +kernel
theorem d_M_enter_122 : decode b_M_enter 122 = .ok (.putfield 102, 3) := by decide +kernel
theorem d_M_enter_125 : decode b_M_enter 125 = .ok (.aload_n 0, 1) := by decide +kernel
theorem d_M_enter_126 : decode b_M_enter 126 = .ok (.getfield 102, 3) := by decide +kernel
theorem d_M_enter_129 : decode b_M_enter 129 = .ok (.iconst 1, 1) := by decide +kernel
theorem d_M_enter_130 : decode b_M_enter 130 = .ok (.isub, 1) := by decide +kernel
theorem d_M_enter_131 : decode b_M_enter 131 = .ok (.ireturn, 1) := by decide +kernel
theorem d_M_word_0 : decode b_M_word 0 = .ok (.aload_n 0, 1) := by decide +kernel
theorem d_M_word_1 : decode b_M_word 1 = .ok (.iconst 0, 1) := by decide +kernel
theorem d_M_word_2 : decode b_M_word 2 = .ok (.putfield 75, 3) := by decide +kernel
theorem d_M_word_5 : decode b_M_word 5 = .ok (.aload_n 0, 1) := by decide +kernel
theorem d_M_word_6 : decode b_M_word 6 = .ok (.iload_n 1, 1) := by decide +kernel
theorem d_M_word_7 : decode b_M_word 7 = .ok (.invokevirtual 108, 3) := by decide +kernel
theorem d_M_word_10 : decode b_M_word 10 = .ok (.istore_n 2, 1) := by decide +kernel
theorem d_M_word_11 : decode b_M_word 11 = .ok (.aload_n 0, 1) := by decide +kernel
theorem d_M_word_12 : decode b_M_word 12 = .ok (.iconst 0, 1) := by decide +kernel
theorem d_M_word_13 : decode b_M_word 13 = .ok (.putfield 99, 3) := by decide +kernel
theorem d_M_word_16 : decode b_M_word 16 = .ok (.iload_n 2, 1) := by decide +kernel
theorem d_M_word_17 : decode b_M_word 17 = .ok (.ireturn, 1) := by decide +kernel
theorem d_M_given_0 : decode b_M_given 0 = .ok (.aload_n 0, 1) := by decide +kernel
theorem d_M_given_1 : decode b_M_given 1 = .ok (.iconst 0, 1) := by decide +kernel
theorem d_M_given_2 : decode b_M_given 2 = .ok (.putfield 75, 3) := by decide +kernel
theorem d_M_given_5 : decode b_M_given 5 = .ok (.aload_n 0, 1) := by decide +kernel
theorem d_M_given_6 : decode b_M_given 6 = .ok (.iload_n 1, 1) := by decide +kernel
theorem d_M_given_7 : decode b_M_given 7 = .ok (.iload_n 2, 1) := by decide +kernel
theorem d_M_given_8 : decode b_M_given 8 = .ok (.invokevirtual 88, 3) := by decide +kernel
theorem d_M_given_11 : decode b_M_given 11 = .ok (.ifCond .eq 14, 3) := by decide +kernel
theorem d_M_given_14 : decode b_M_given 14 = .ok (.iload_n 3, 1) := by decide +kernel
theorem d_M_given_15 : decode b_M_given 15 = .ok (.ifCond .eq 12, 3) := by decide +kernel
theorem d_M_given_18 : decode b_M_given 18 = .ok (.iload_n 3, 1) := by decide +kernel
theorem d_M_given_19 : decode b_M_given 19 = .ok (.invokestatic 95, 3) := by decide +kernel
theorem d_M_given_22 : decode b_M_given 22 = .ok (.ifCond .ne 5, 3) := by decide +kernel
theorem d_M_given_25 : decode b_M_given 25 = .ok (.iconst 0, 1) := by decide +kernel
theorem d_M_given_26 : decode b_M_given 26 = .ok (.ireturn, 1) := by decide +kernel
theorem d_M_given_27 : decode b_M_given 27 = .ok (.aload_n 0, 1) := by decide +kernel
theorem d_M_given_28 : decode b_M_given 28 = .ok (.getfield 13, 3) := by decide +kernel
theorem d_M_given_31 : decode b_M_given 31 = .ok (.aload_n 0, 1) := by decide +kernel
theorem d_M_given_32 : decode b_M_given 32 = .ok (.getfield 65, 3) := by decide +kernel
theorem d_M_given_35 : decode b_M_given 35 = .ok (.iload_n 2, 1) := by decide +kernel
theorem d_M_given_36 : decode b_M_given 36 = .ok (.imul, 1) := by decide +kernel
theorem d_M_given_37 : decode b_M_given 37 = .ok (.iload_n 1, 1) := by decide +kernel
theorem d_M_given_38 : decode b_M_given 38 = .ok (.iadd, 1) := by decide +kernel
theorem d_M_given_39 : decode b_M_given 39 = .ok (.iload_n 3, 1) := by decide +kernel
theorem d_M_given_40 : decode b_M_given 40 = .ok (.iastore, 1) := by decide +kernel
theorem d_M_given_41 : decode b_M_given 41 = .ok (.iconst 1, 1) := by decide +kernel
theorem d_M_given_42 : decode b_M_given 42 = .ok (.ireturn, 1) := by decide +kernel
theorem d_M_theme_0 : decode b_M_theme 0 = .ok (.aload_n 0, 1) := by decide +kernel
theorem d_M_theme_1 : decode b_M_theme 1 = .ok (.iconst 0, 1) := by decide +kernel
theorem d_M_theme_2 : decode b_M_theme 2 = .ok (.putfield 75, 3) := by decide +kernel
theorem d_M_theme_5 : decode b_M_theme 5 = .ok (.aload_n 0, 1) := by decide +kernel
theorem d_M_theme_6 : decode b_M_theme 6 = .ok (.iload_n 1, 1) := by decide +kernel
theorem d_M_theme_7 : decode b_M_theme 7 = .ok (.invokevirtual 112, 3) := by decide +kernel
theorem d_M_theme_10 : decode b_M_theme 10 = .ok (.ifCond .eq 35, 3) := by decide +kernel
theorem d_M_theme_13 : decode b_M_theme 13 = .ok (.iload_n 2, 1) := by decide +kernel
theorem d_M_theme_14 : decode b_M_theme 14 = .ok (.iconst (-1), 1) := by decide +kernel
theorem d_M_theme_15 : decode b_M_theme 15 = .ok (.if_icmp .eq 32, 3) := by decide +kernel
theorem d_M_theme_18 : decode b_M_theme 18 = .ok (.iload_n 2, 1) := by decide +kernel
theorem d_M_theme_19 : decode b_M_theme 19 = .ok (.ifCond .lt 26, 3) := by decide +kernel
theorem d_M_theme_22 : decode b_M_theme 22 = .ok (.iload_n 2, 1) := by decide +kernel
theorem d_M_theme_23 : decode b_M_theme 23 = .ok (.aload_n 0, 1) := by decide +kernel
theorem d_M_theme_24 : decode b_M_theme 24 = .ok (.getfield 102, 3) := by decide +kernel
theorem d_M_theme_27 : decode b_M_theme 27 = .ok (.if_icmp .ge 18, 3) := by decide +kernel
theorem d_M_theme_30 : decode b_M_theme 30 = .ok (.aload_n 0, 1) := by decide +kernel
theorem d_M_theme_31 : decode b_M_theme 31 = .ok (.getfield 20, 3) := by decide +kernel
theorem d_M_theme_34 : decode b_M_theme 34 = .ok (.iload_n 2, 1) := by decide +kernel
theorem d_M_theme_35 : decode b_M_theme 35 = .ok (.iaload, 1) := by decide +kernel
theorem d_M_theme_36 : decode b_M_theme 36 = .ok (.aload_n 0, 1) := by decide +kernel
theorem d_M_theme_37 : decode b_M_theme 37 = .ok (.getfield 32, 3) := by decide +kernel
theorem d_M_theme_40 : decode b_M_theme 40 = .ok (.iload_n 1, 1) := by decide +kernel
theorem d_M_theme_41 : decode b_M_theme 41 = .ok (.iaload, 1) := by decide +kernel
theorem d_M_theme_42 : decode b_M_theme 42 = .ok (.if_icmp .eq 5, 3) := by decide +kernel
theorem d_M_theme_45 : decode b_M_theme 45 = .ok (.iconst 0, 1) := by decide +kernel
theorem d_M_theme_46 : decode b_M_theme 46 = .ok (.ireturn, 1) := by decide +kernel
theorem d_M_theme_47 : decode b_M_theme 47 = .ok (.aload_n 0, 1) := by decide +kernel
theorem d_M_theme_48 : decode b_M_theme 48 = .ok (.getfield 38, 3) := by decide +kernel
theorem d_M_theme_51 : decode b_M_theme 51 = .ok (.iload_n 1, 1) := by decide +kernel
theorem d_M_theme_52 : decode b_M_theme 52 = .ok (.iload_n 2, 1) := by decide +kernel
theorem d_M_theme_53 : decode b_M_theme 53 = .ok (.iastore, 1) := by decide +kernel
theorem d_M_theme_54 : decode b_M_theme 54 = .ok (.iconst 1, 1) := by decide +kernel
theorem d_M_theme_55 : decode b_M_theme 55 = .ok (.ireturn, 1) := by decide +kernel
theorem d_M_slots_0 : decode b_M_slots 0 = .ok (.aload_n 0, 1) := by decide +kernel
theorem d_M_slots_1 : decode b_M_slots 1 = .ok (.iconst 0, 1) := by decide +kernel
theorem d_M_slots_2 : decode b_M_slots 2 = .ok (.putfield 75, 3) := by decide +kernel
theorem d_M_slots_5 : decode b_M_slots 5 = .ok (.aload_n 0, 1) := by decide +kernel
