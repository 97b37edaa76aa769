theorem d_M_search_91 : decode b_M_search 91 = .ok (.getfield 41, 3) := by decide +kernel
theorem d_M_search_94 : decode b_M_search 94 = .ok (.iload 6, 2) := by decide +kernel
theorem d_M_search_96 : decode b_M_search 96 = .ok (.iaload, 1) := by decide +kernel
theorem d_M_search_97 : decode b_M_search 97 = .ok (.iastore, 1) := by decide +kernel
theorem d_M_search_98 : decode b_M_search 98 = .ok (.iinc 6 1, 3) := by decide +kernel
theorem d_M_search_101 : decode b_M_search 101 = .ok (.goto (-24), 3) := by decide +kernel
theorem d_M_search_104 : decode b_M_search 104 = .ok (.iload_n 2, 1) := by decide +kernel
theorem d_M_search_105 : decode b_M_search 105 = .ok (.ifCond .ne 5, 3) := by decide +kernel
theorem d_M_search_108 : decode b_M_search 108 = .ok (.iconst 0, 1) := by decide +kernel
theorem d_M_search_109 : decode b_M_search 109 = .ok (.ireturn, 1) := by decide +kernel
theorem d_M_search_110 : decode b_M_search 110 = .ok (.iinc 4 (-1), 3) := by decide +kernel
theorem d_M_search_113 : decode b_M_search 113 = .ok (.iconst 0, 1) := by decide +kernel
theorem d_M_search_114 : decode b_M_search 114 = .ok (.istore 5, 2) := by decide +kernel
theorem d_M_search_116 : decode b_M_search 116 = .ok (.goto (-89), 3) := by decide +kernel
theorem d_M_search_119 : decode b_M_search 119 = .ok (.aload_n 0, 1) := by decide +kernel
theorem d_M_search_120 : decode b_M_search 120 = .ok (.getfield 41, 3) := by decide +kernel
theorem d_M_search_123 : decode b_M_search 123 = .ok (.aload_n 0, 1) := by decide +kernel
theorem d_M_search_124 : decode b_M_search 124 = .ok (.getfield 50, 3) := by decide +kernel
theorem d_M_search_127 : decode b_M_search 127 = .ok (.iload 4, 2) := by decide +kernel
theorem d_M_search_129 : decode b_M_search 129 = .ok (.iaload, 1) := by decide +kernel
theorem d_M_search_130 : decode b_M_search 130 = .ok (.iconst (-1), 1) := by decide +kernel
theorem d_M_search_131 : decode b_M_search 131 = .ok (.iastore, 1) := by decide +kernel
theorem d_M_search_132 : decode b_M_search 132 = .ok (.aload_n 0, 1) := by decide +kernel
theorem d_M_search_133 : decode b_M_search 133 = .ok (.getfield 56, 3) := by decide +kernel
theorem d_M_search_136 : decode b_M_search 136 = .ok (.iload 4, 2) := by decide +kernel
theorem d_M_search_138 : decode b_M_search 138 = .ok (.iaload, 1) := by decide +kernel
theorem d_M_search_139 : decode b_M_search 139 = .ok (.aload_n 0, 1) := by decide +kernel
theorem d_M_search_140 : decode b_M_search 140 = .ok (.getfield 53, 3) := by decide +kernel
theorem d_M_search_143 : decode b_M_search 143 = .ok (.iload 4, 2) := by decide +kernel
theorem d_M_search_145 : decode b_M_search 145 = .ok (.iaload, 1) := by decide +kernel
theorem d_M_search_146 : decode b_M_search 146 = .ok (.if_icmp .ne 12, 3) := by decide +kernel
theorem d_M_search_149 : decode b_M_search 149 = .ok (.iinc 4 (-1), 3) := by decide +kernel
theorem d_M_search_152 : decode b_M_search 152 = .ok (.iconst 0, 1) := by decide +kernel
theorem d_M_search_153 : decode b_M_search 153 = .ok (.istore 5, 2) := by decide +kernel
theorem d_M_search_155 : decode b_M_search 155 = .ok (.goto (-128), 3) := by decide +kernel
theorem d_M_search_158 : decode b_M_search 158 = .ok (.aload_n 0, 1) := by decide +kernel
theorem d_M_search_159 : decode b_M_search 159 = .ok (.getfield 137, 3) := by decide +kernel
theorem d_M_search_162 : decode b_M_search 162 = .ok (.iload_n 1, 1) := by decide +kernel
theorem d_M_search_163 : decode b_M_search 163 = .ok (.if_icmp .ne 5, 3) := by decide +kernel
theorem d_M_search_166 : decode b_M_search 166 = .ok (.iconst 2, 1) := by decide +kernel
theorem d_M_search_167 : decode b_M_search 167 = .ok (.ireturn, 1) := by decide +kernel
theorem d_M_search_168 : decode b_M_search 168 = .ok (.aload_n 0, 1) := by decide +kernel
theorem d_M_search_169 : decode b_M_search 169 = .ok (.getfield 41, 3) := by decide +kernel
theorem d_M_search_172 : decode b_M_search 172 = .ok (.aload_n 0, 1) := by decide +kernel
theorem d_M_search_173 : decode b_M_search 173 = .ok (.getfield 50, 3) := by decide +kernel
theorem d_M_search_176 : decode b_M_search 176 = .ok (.iload 4, 2) := by decide +kernel
theorem d_M_search_178 : decode b_M_search 178 = .ok (.iaload, 1) := by decide +kernel
theorem d_M_search_179 : decode b_M_search 179 = .ok (.aload_n 0, 1) := by decide +kernel
theorem d_M_search_180 : decode b_M_search 180 = .ok (.getfield 59, 3) := by decide +kernel
theorem d_M_search_183 : decode b_M_search 183 = .ok (.bipush 80, 2) := by decide +kernel
theorem d_M_search_185 : decode b_M_search 185 = .ok (.iload 4, 2) := by decide +kernel
theorem d_M_search_187 : decode b_M_search 187 = .ok (.imul, 1) := by decide +kernel
theorem d_M_search_188 : decode b_M_search 188 = .ok (.aload_n 0, 1) := by decide +kernel
theorem d_M_search_189 : decode b_M_search 189 = .ok (.getfield 56, 3) := by decide +kernel
theorem d_M_search_192 : decode b_M_search 192 = .ok (.iload 4, 2) := by decide +kernel
theorem d_M_search_194 : decode b_M_search 194 = .ok (.iaload, 1) := by decide +kernel
theorem d_M_search_195 : decode b_M_search 195 = .ok (.iadd, 1) := by decide +kernel
theorem d_M_search_196 : decode b_M_search 196 = .ok (.iaload, 1) := by decide +kernel
theorem d_M_search_197 : decode b_M_search 197 = .ok (.iastore, 1) := by decide +kernel
theorem d_M_search_198 : decode b_M_search 198 = .ok (.aload_n 0, 1) := by decide +kernel
theorem d_M_search_199 : decode b_M_search 199 = .ok (.getfield 56, 3) := by decide +kernel
theorem d_M_search_202 : decode b_M_search 202 = .ok (.iload 4, 2) := by decide +kernel
theorem d_M_search_204 : decode b_M_search 204 = .ok (.dup2, 1) := by decide +kernel
theorem d_M_search_205 : decode b_M_search 205 = .ok (.iaload, 1) := by decide +kernel
theorem d_M_search_206 : decode b_M_search 206 = .ok (.iconst 1, 1) := by decide +kernel
theorem d_M_search_207 : decode b_M_search 207 = .ok (.iadd, 1) := by decide +kernel
theorem d_M_search_208 : decode b_M_search 208 = .ok (.iastore, 1) := by decide +kernel
theorem d_M_search_209 : decode b_M_search 209 = .ok (.aload_n 0, 1) := by decide +kernel
theorem d_M_search_210 : decode b_M_search 210 = .ok (.dup, 1) := by decide +kernel
theorem d_M_search_211 : decode b_M_search 211 = .ok (.getfield 137, 3) := by decide +kernel
theorem d_M_search_214 : decode b_M_search 214 = .ok (.iconst 1, 1) := by decide +kernel
theorem d_M_search_215 : decode b_M_search 215 = .ok (.iadd, 1) := by decide +kernel
theorem d_M_search_216 : decode b_M_search 216 = .ok (.putfield 137, 3) := by decide +kernel
theorem d_M_search_219 : decode b_M_search 219 = .ok (.iinc 4 1, 3) := by decide +kernel
theorem d_M_search_222 : decode b_M_search 222 = .ok (.iconst 1, 1) := by decide +kernel
theorem d_M_search_223 : decode b_M_search 223 = .ok (.istore 5, 2) := by decide +kernel
theorem d_M_search_225 : decode b_M_search 225 = .ok (.goto (-198), 3) := by decide +kernel
theorem d_M_search_228 : decode b_M_search 228 = .ok (.aload_n 0, 1) := by decide +kernel
theorem d_M_search_229 : decode b_M_search 229 = .ok (.getfield 91, 3) := by decide +kernel
theorem d_M_search_232 : decode b_M_search 232 = .ok (.ifCond .eq 7, 3) := by decide +kernel
theorem d_M_search_235 : decode b_M_search 235 = .ok (.iconst 0, 1) := by decide +kernel
theorem d_M_search_236 : decode b_M_search 236 = .ok (.goto 4, 3) := by decide +kernel
theorem d_M_search_239 : decode b_M_search 239 = .ok (.iconst 1, 1) := by decide +kernel
theorem d_M_search_240 : decode b_M_search 240 = .ok (.ireturn, 1) := by decide +kernel
theorem d_M_run_0 : decode b_M_run 0 = .ok (.aload_n 0, 1) := by decide +kernel
theorem d_M_run_1 : decode b_M_run 1 = .ok (.iconst 0, 1) := by decide +kernel
theorem d_M_run_2 : decode b_M_run 2 = .ok (.putfield 75, 3) := by decide +kernel
theorem d_M_run_5 : decode b_M_run 5 = .ok (.iload_n 1, 1) := by decide +kernel
theorem d_M_run_6 : decode b_M_run 6 = .ok (.ifCond .lt 10, 3) := by decide +kernel
theorem d_M_run_9 : decode b_M_run 9 = .ok (.iload_n 1, 1) := by decide +kernel
theorem d_M_run_10 : decode b_M_run 10 = .ok (.sipush 20000, 3) := by decide +kernel
theorem d_M_run_13 : decode b_M_run 13 = .ok (.if_icmp .le 7, 3) := by decide +kernel
theorem d_M_run_16 : decode b_M_run 16 = .ok (.iconst (-1), 1) := by decide +kernel
theorem d_M_run_17 : decode b_M_run 17 = .ok (.goto 9, 3) := by decide +kernel
theorem d_M_run_20 : decode b_M_run 20 = .ok (.aload_n 0, 1) := by decide +kernel
theorem d_M_run_21 : decode b_M_run 21 = .ok (.iload_n 1, 1) := by decide +kernel
theorem d_M_run_22 : decode b_M_run 22 = .ok (.iconst 0, 1) := by decide +kernel
theorem d_M_run_23 : decode b_M_run 23 = .ok (.invokevirtual 150, 3) := by decide +kernel
theorem d_M_run_26 : decode b_M_run 26 = .ok (.ireturn, 1) := by decide +kernel
theorem d_M_best_0 : decode b_M_best 0 = .ok (.aload_n 0, 1) := by decide +kernel
theorem d_M_best_1 : decode b_M_best 1 = .ok (.iconst 0, 1) := by decide +kernel
theorem d_M_best_2 : decode b_M_best 2 = .ok (.putfield 75, 3) := by decide +kernel
theorem d_M_best_5 : decode b_M_best 5 = .ok (.iload_n 1, 1) := by decide +kernel
theorem d_M_best_6 : decode b_M_best 6 = .ok (.ifCond .lt 10, 3) := by decide +kernel
theorem d_M_best_9 : decode b_M_best 9 = .ok (.iload_n 1, 1) := by decide +kernel
theorem d_M_best_10 : decode b_M_best 10 = .ok (.sipush 20000, 3) := by decide +kernel
theorem d_M_best_13 : decode b_M_best 13 = .ok (.if_icmp .le 7, 3) := by decide +kernel
theorem d_M_best_16 : decode b_M_best 16 = .ok (.iconst (-1), 1) := by decide +kernel
theorem d_M_best_17 : decode b_M_best 17 = .ok (.goto 9, 3) := by decide +kernel
theorem d_M_best_20 : decode b_M_best 20 = .ok (.aload_n 0, 1) := by decide +kernel
theorem d_M_best_21 : decode b_M_best 21 = .ok (.iload_n 1, 1) := by decide +kernel
theorem d_M_best_22 : decode b_M_best 22 = .ok (.iconst 1, 1) := by decide +kernel
theorem d_M_best_23 : decode b_M_best 23 = .ok (.invokevirtual 150, 3) := by decide +kernel
theorem d_M_best_26 : decode b_M_best 26 = .ok (.ireturn, 1) := by decide +kernel
theorem d_M_steps_0 : decode b_M_steps 0 = .ok (.aload_n 0, 1) := by decide +kernel
theorem d_M_steps_1 : decode b_M_steps 1 = .ok (.iconst 0, 1) := by decide +kernel
theorem d_M_steps_2 : decode b_M_steps 2 = .ok (.putfield 75, 3) := by decide +kernel
theorem d_M_steps_5 : decode b_M_steps 5 = .ok (.aload_n 0, 1) := by decide +kernel
theorem d_M_steps_6 : decode b_M_steps 6 = .ok (.getfield 137, 3) := by decide +kernel
theorem d_M_steps_9 : decode b_M_steps 9 = .ok (.ireturn, 1) := by decide +kernel
theorem d_M_many_0 : decode b_M_many 0 = .ok (.aload_n 0, 1) := by decide +kernel
theorem d_M_many_1 : decode b_M_many 1 = .ok (.iconst 0, 1) := by decide +kernel
theorem d_M_many_2 : decode b_M_many 2 = .ok (.putfield 75, 3) := by decide +kernel
theorem d_M_many_5 : decode b_M_many 5 = .ok (.aload_n 0, 1) := by decide +kernel
theorem d_M_many_6 : decode b_M_many 6 = .ok (.getfield 140, 3) := by decide +kernel
theorem d_M_many_9 : decode b_M_many 9 = .ok (.ireturn, 1) := by decide +kernel
theorem d_M_score_0 : decode b_M_score 0 = .ok (.aload_n 0, 1) := by decide +kernel
theorem d_M_score_1 : decode b_M_score 1 = .ok (.iconst 0, 1) := by decide +kernel
theorem d_M_score_2 : decode b_M_score 2 = .ok (.putfield 75, 3) := by decide +kernel
theorem d_M_score_5 : decode b_M_score 5 = .ok (.aload_n 0, 1) := by decide +kernel
theorem d_M_score_6 : decode b_M_score 6 = .ok (.getfield 91, 3) := by decide +kernel
theorem d_M_score_9 : decode b_M_score 9 = .ok (.ifCond .ne 5, 3) := by decide +kernel
theorem d_M_score_12 : decode b_M_score 12 = .ok (.iconst (-1), 1) := by decide +kernel
theorem d_M_score_13 : decode b_M_score 13 = .ok (.ireturn, 1) := by decide +kernel
theorem d_M_score_14 : decode b_M_score 14 = .ok (.iconst 0, 1) := by decide +kernel
theorem d_M_score_15 : decode b_M_score 15 = .ok (.istore_n 1, 1) := by decide +kernel
theorem d_M_score_16 : decode b_M_score 16 = .ok (.iconst 0, 1) := by decide +kernel
theorem d_M_score_17 : decode b_M_score 17 = .ok (.istore_n 2, 1) := by decide +kernel
theorem d_M_score_18 : decode b_M_score 18 = .ok (.iload_n 2, 1) := by decide +kernel
theorem d_M_score_19 : decode b_M_score 19 = .ok (.aload_n 0, 1) := by decide +kernel
theorem d_M_score_20 : decode b_M_score 20 = .ok (.getfield 82, 3) := by decide +kernel
theorem d_M_score_23 : decode b_M_score 23 = .ok (.if_icmp .ge 23, 3) := by decide +kernel
theorem d_M_score_26 : decode b_M_score 26 = .ok (.iload_n 1, 1) := by decide +kernel
theorem d_M_score_27 : decode b_M_score 27 = .ok (.aload_n 0, 1) := by decide +kernel
theorem d_M_score_28 : decode b_M_score 28 = .ok (.getfield 26, 3) := by decide +kernel
theorem d_M_score_31 : decode b_M_score 31 = .ok (.aload_n 0, 1) := by decide +kernel
theorem d_M_score_32 : decode b_M_score 32 = .ok (.getfield 44, 3) := by decide +kernel
theorem d_M_score_35 : decode b_M_score 35 = .ok (.iload_n 2, 1) := by decide +kernel
theorem d_M_score_36 : decode b_M_score 36 = .ok (.iaload, 1) := by decide +kernel
theorem d_M_score_37 : decode b_M_score 37 = .ok (.iaload, 1) := by decide +kernel
theorem d_M_score_38 : decode b_M_score 38 = .ok (.iadd, 1) := by decide +kernel
theorem d_M_score_39 : decode b_M_score 39 = .ok (.istore_n 1, 1) := by decide +kernel
theorem d_M_score_40 : decode b_M_score 40 = .ok (.iinc 2 1, 3) := by decide +kernel
theorem d_M_score_43 : decode b_M_score 43 = .ok (.goto (-25), 3) := by decide +kernel
theorem d_M_score_46 : decode b_M_score 46 = .ok (.iload_n 1, 1) := by decide +kernel
theorem d_M_score_47 : decode b_M_score 47 = .ok (.ireturn, 1) := by decide +kernel
theorem d_M_letter_0 : decode b_M_letter 0 = .ok (.aload_n 0, 1) := by decide +kernel
theorem d_M_letter_1 : decode b_M_letter 1 = .ok (.iconst 0, 1) := by decide +kernel
theorem d_M_letter_2 : decode b_M_letter 2 = .ok (.putfield 75, 3) := by decide +kernel
theorem d_M_letter_5 : decode b_M_letter 5 = .ok (.aload_n 0, 1) := by decide +kernel
theorem d_M_letter_6 : decode b_M_letter 6 = .ok (.iload_n 1, 1) := by decide +kernel
theorem d_M_letter_7 : decode b_M_letter 7 = .ok (.iload_n 2, 1) := by decide +kernel
theorem d_M_letter_8 : decode b_M_letter 8 = .ok (.invokevirtual 78, 3) := by decide +kernel
theorem d_M_letter_11 : decode b_M_letter 11 = .ok (.ifCond .ne 5, 3) := by decide +kernel
theorem d_M_letter_14 : decode b_M_letter 14 = .ok (.iconst (-1), 1) := by decide +kernel
theorem d_M_letter_15 : decode b_M_letter 15 = .ok (.ireturn, 1) := by decide +kernel
theorem d_M_letter_16 : decode b_M_letter 16 = .ok (.iconst 0, 1) := by decide +kernel
theorem d_M_letter_17 : decode b_M_letter 17 = .ok (.istore_n 3, 1) := by decide +kernel
theorem d_M_letter_18 : decode b_M_letter 18 = .ok (.iload_n 3, 1) := by decide +kernel
theorem d_M_letter_19 : decode b_M_letter 19 = .ok (.aload_n 0, 1) := by decide +kernel
theorem d_M_letter_20 : decode b_M_letter 20 = .ok (.getfield 82, 3) := by decide +kernel
theorem d_M_letter_23 : decode b_M_letter 23 = .ok (.if_icmp .ge 72, 3) := by decide +kernel
theorem d_M_letter_26 : decode b_M_letter 26 = .ok (.aload_n 0, 1) := by decide +kernel
theorem d_M_letter_27 : decode b_M_letter 27 = .ok (.getfield 91, 3) := by decide +kernel
theorem d_M_letter_30 : decode b_M_letter 30 = .ok (.ifCond .eq 65, 3) := by decide +kernel
theorem d_M_letter_33 : decode b_M_letter 33 = .ok (.iconst 0, 1) := by decide +kernel
theorem d_M_letter_34 : decode b_M_letter 34 = .ok (.istore 4, 2) := by decide +kernel
theorem d_M_letter_36 : decode b_M_letter 36 = .ok (.iload 4, 2) := by decide +kernel
theorem d_M_letter_38 : decode b_M_letter 38 = .ok (.aload_n 0, 1) := by decide +kernel
theorem d_M_letter_39 : decode b_M_letter 39 = .ok (.getfield 32, 3) := by decide +kernel
theorem d_M_letter_42 : decode b_M_letter 42 = .ok (.iload_n 3, 1) := by decide +kernel
theorem d_M_letter_43 : decode b_M_letter 43 = .ok (.iaload, 1) := by decide +kernel
theorem d_M_letter_44 : decode b_M_letter 44 = .ok (.if_icmp .ge 45, 3) := by decide +kernel
theorem d_M_letter_47 : decode b_M_letter 47 = .ok (.aload_n 0, 1) := by decide +kernel
theorem d_M_letter_48 : decode b_M_letter 48 = .ok (.iload_n 3, 1) := by decide +kernel
theorem d_M_letter_49 : decode b_M_letter 49 = .ok (.iload 4, 2) := by decide +kernel
theorem d_M_letter_51 : decode b_M_letter 51 = .ok (.invokevirtual 115, 3) := by decide +kernel
theorem d_M_letter_54 : decode b_M_letter 54 = .ok (.aload_n 0, 1) := by decide +kernel
theorem d_M_letter_55 : decode b_M_letter 55 = .ok (.getfield 65, 3) := by decide +kernel
theorem d_M_letter_58 : decode b_M_letter 58 = .ok (.iload_n 2, 1) := by decide +kernel
theorem d_M_letter_59 : decode b_M_letter 59 = .ok (.imul, 1) := by decide +kernel
theorem d_M_letter_60 : decode b_M_letter 60 = .ok (.iload_n 1, 1) := by decide +kernel
theorem d_M_letter_61 : decode b_M_letter 61 = .ok (.iadd, 1) := by decide +kernel
theorem d_M_letter_62 : decode b_M_letter 62 = .ok (.if_icmp .ne 21, 3) := by decide +kernel
theorem d_M_letter_65 : decode b_M_letter 65 = .ok (.aload_n 0, 1) := by decide +kernel
theorem d_M_letter_66 : decode b_M_letter 66 = .ok (.getfield 23, 3) := by decide +kernel
theorem d_M_letter_69 : decode b_M_letter 69 = .ok (.bipush 6, 2) := by decide +kernel
theorem d_M_letter_71 : decode b_M_letter 71 = .ok (.aload_n 0, 1) := by decide +kernel
theorem d_M_letter_72 : decode b_M_letter 72 = .ok (.getfield 44, 3) := by decide +kernel
theorem d_M_letter_75 : decode b_M_letter 75 = .ok (.iload_n 3, 1) := by decide +kernel
theorem d_M_letter_76 : decode b_M_letter 76 = .ok (.iaload, 1) := by decide +kernel
theorem d_M_letter_77 : decode b_M_letter 77 = .ok (.imul, 1) := by decide +kernel
theorem d_M_letter_78 : decode b_M_letter 78 = .ok (.iload 4, 2) := by decide +kernel
theorem d_M_letter_80 : decode b_M_letter 80 = .ok (.iadd, 1) := by decide +kernel
theorem d_M_letter_81 : decode b_M_letter 81 = .ok (.iaload, 1) := by decide +kernel
theorem d_M_letter_82 : decode b_M_letter 82 = .ok (.ireturn, 1) := by decide +kernel
theorem d_M_letter_83 : decode b_M_letter 83 = .ok (.iinc 4 1, 3) := by decide +kernel
theorem d_M_letter_86 : decode b_M_letter 86 = .ok (.goto (-50), 3) := by decide +kernel
theorem d_M_letter_89 : decode b_M_letter 89 = .ok (.iinc 3 1, 3) := by decide +kernel
theorem d_M_letter_92 : decode b_M_letter 92 = .ok (.goto (-74), 3) := by decide +kernel
theorem d_M_letter_95 : decode b_M_letter 95 = .ok (.iconst 0, 1) := by decide +kernel
theorem d_M_letter_96 : decode b_M_letter 96 = .ok (.ireturn, 1) := by decide +kernel
theorem d_M_check_0 : decode b_M_check 0 = .ok (.aload_n 0, 1) := by decide +kernel
theorem d_M_check_1 : decode b_M_check 1 = .ok (.iconst 0, 1) := by decide +kernel
theorem d_M_check_2 : decode b_M_check 2 = .ok (.putfield 75, 3) := by decide +kernel
theorem d_M_check_5 : decode b_M_check 5 = .ok (.aload_n 0, 1) := by decide +kernel
theorem d_M_check_6 : decode b_M_check 6 = .ok (.getfield 91, 3) := by decide +kernel
theorem d_M_check_9 : decode b_M_check 9 = .ok (.ifCond .ne 5, 3) := by decide +kernel
theorem d_M_check_12 : decode b_M_check 12 = .ok (.iconst (-1), 1) := by decide +kernel
theorem d_M_check_13 : decode b_M_check 13 = .ok (.ireturn, 1) := by decide +kernel
theorem d_M_check_14 : decode b_M_check 14 = .ok (.iconst 0, 1) := by decide +kernel
theorem d_M_check_15 : decode b_M_check 15 = .ok (.istore_n 1, 1) := by decide +kernel
theorem d_M_check_16 : decode b_M_check 16 = .ok (.iload_n 1, 1) := by decide +kernel
theorem d_M_check_17 : decode b_M_check 17 = .ok (.aload_n 0, 1) := by decide +kernel
theorem d_M_check_18 : decode b_M_check 18 = .ok (.getfield 82, 3) := by decide +kernel
theorem d_M_check_21 : decode b_M_check 21 = .ok (.if_icmp .ge 96, 3) := by decide +kernel
theorem d_M_check_24 : decode b_M_check 24 = .ok (.aload_n 0, 1) := by decide +kernel
theorem d_M_check_25 : decode b_M_check 25 = .ok (.getfield 38, 3) := by decide +kernel
theorem d_M_check_28 : decode b_M_check 28 = .ok (.iload_n 1, 1) := by decide +kernel
theorem d_M_check_29 : decode b_M_check 29 = .ok (.iaload, 1) := by decide +kernel
theorem d_M_check_30 : decode b_M_check 30 = .ok (.iconst (-1), 1) := by decide +kernel
theorem d_M_check_31 : decode b_M_check 31 = .ok (.if_icmp .eq 22, 3) := by decide +kernel
theorem d_M_check_34 : decode b_M_check 34 = .ok (.aload_n 0, 1) := by decide +kernel
theorem d_M_check_35 : decode b_M_check 35 = .ok (.getfield 38, 3) := by decide +kernel
theorem d_M_check_38 : decode b_M_check 38 = .ok (.iload_n 1, 1) := by decide +kernel
theorem d_M_check_39 : decode b_M_check 39 = .ok (.iaload, 1) := by decide +kernel
theorem d_M_check_40 : decode b_M_check 40 = .ok (.aload_n 0, 1) := by decide +kernel
theorem d_M_check_41 : decode b_M_check 41 = .ok (.getfield 44, 3) := by decide +kernel
theorem d_M_check_44 : decode b_M_check 44 = .ok (.iload_n 1, 1) := by decide +kernel
theorem d_M_check_45 : decode b_M_check 45 = .ok (.iaload, 1) := by decide +kernel
theorem d_M_check_46 : decode b_M_check 46 = .ok (.if_icmp .eq 7, 3) := by decide +kernel
theorem d_M_check_49 : decode b_M_check 49 = .ok (.iconst 1, 1) := by decide +kernel
theorem d_M_check_50 : decode b_M_check 50 = .ok (.iload_n 1, 1) := by decide +kernel
theorem d_M_check_51 : decode b_M_check 51 = .ok (.iadd, 1) := by decide +kernel
theorem d_M_check_52 : decode b_M_check 52 = .ok (.ireturn, 1) := by decide +kernel
theorem d_M_check_53 : decode b_M_check 53 = .ok (.iconst 0, 1) := by decide +kernel
theorem d_M_check_54 : decode b_M_check 54 = .ok (.istore_n 2, 1) := by decide +kernel
theorem d_M_check_55 : decode b_M_check 55 = .ok (.iload_n 2, 1) := by decide +kernel
theorem d_M_check_56 : decode b_M_check 56 = .ok (.aload_n 0, 1) := by decide +kernel
theorem d_M_check_57 : decode b_M_check 57 = .ok (.getfield 32, 3) := by decide +kernel
theorem d_M_check_60 : decode b_M_check 60 = .ok (.iload_n 1, 1) := by decide +kernel
theorem d_M_check_61 : decode b_M_check 61 = .ok (.iaload, 1) := by decide +kernel
theorem d_M_check_62 : decode b_M_check 62 = .ok (.if_icmp .ge 49, 3) := by decide +kernel
theorem d_M_check_65 : decode b_M_check 65 = .ok (.aload_n 0, 1) := by decide +kernel
theorem d_M_check_66 : decode b_M_check 66 = .ok (.getfield 13, 3) := by decide +kernel
theorem d_M_check_69 : decode b_M_check 69 = .ok (.aload_n 0, 1) := by decide +kernel
theorem d_M_check_70 : decode b_M_check 70 = .ok (.iload_n 1, 1) := by decide +kernel
theorem d_M_check_71 : decode b_M_check 71 = .ok (.iload_n 2, 1) := by decide +kernel
theorem d_M_check_72 : decode b_M_check 72 = .ok (.invokevirtual 115, 3) := by decide +kernel
theorem d_M_check_75 : decode b_M_check 75 = .ok (.iaload, 1) := by decide +kernel
theorem d_M_check_76 : decode b_M_check 76 = .ok (.istore_n 3, 1) := by decide +kernel
theorem d_M_check_77 : decode b_M_check 77 = .ok (.iload_n 3, 1) := by decide +kernel
theorem d_M_check_78 : decode b_M_check 78 = .ok (.ifCond .eq 27, 3) := by decide +kernel
theorem d_M_check_81 : decode b_M_check 81 = .ok (.iload_n 3, 1) := by decide +kernel
theorem d_M_check_82 : decode b_M_check 82 = .ok (.aload_n 0, 1) := by decide +kernel
theorem d_M_check_83 : decode b_M_check 83 = .ok (.getfield 23, 3) := by decide +kernel
theorem d_M_check_86 : decode b_M_check 86 = .ok (.bipush 6, 2) := by decide +kernel
theorem d_M_check_88 : decode b_M_check 88 = .ok (.aload_n 0, 1) := by decide +kernel
theorem d_M_check_89 : decode b_M_check 89 = .ok (.getfield 44, 3) := by decide +kernel
theorem d_M_check_92 : decode b_M_check 92 = .ok (.iload_n 1, 1) := by decide +kernel
theorem d_M_check_93 : decode b_M_check 93 = .ok (.iaload, 1) := by decide +kernel
theorem d_M_check_94 : decode b_M_check 94 = .ok (.imul, 1) := by decide +kernel
theorem d_M_check_95 : decode b_M_check 95 = .ok (.iload_n 2, 1) := by decide +kernel
theorem d_M_check_96 : decode b_M_check 96 = .ok (.iadd, 1) := by decide +kernel
theorem d_M_check_97 : decode b_M_check 97 = .ok (.iaload, 1) := by decide +kernel
theorem d_M_check_98 : decode b_M_check 98 = .ok (.if_icmp .eq 7, 3) := by decide +kernel
theorem d_M_check_101 : decode b_M_check 101 = .ok (.iconst 1, 1) := by decide +kernel
theorem d_M_check_102 : decode b_M_check 102 = .ok (.iload_n 1, 1) := by decide +kernel
theorem d_M_check_103 : decode b_M_check 103 = .ok (.iadd, 1) := by decide +kernel
theorem d_M_check_104 : decode b_M_check 104 = .ok (.ireturn, 1) := by decide +kernel
theorem d_M_check_105 : decode b_M_check 105 = .ok (.iinc 2 1, 3) := by decide +kernel
theorem d_M_check_108 : decode b_M_check 108 = .ok (.goto (-53), 3) := by decide +kernel
theorem d_M_check_111 : decode b_M_check 111 = .ok (.iinc 1 1, 3) := by decide +kernel
theorem d_M_check_114 : decode b_M_check 114 = .ok (.goto (-98), 3) := by decide +kernel
theorem d_M_check_117 : decode b_M_check 117 = .ok (.iconst 0, 1) := by decide +kernel
theorem d_M_check_118 : decode b_M_check 118 = .ok (.ireturn, 1) := by decide +kernel
theorem d_M_alike_0 : decode b_M_alike 0 = .ok (.aload_n 0, 1) := by decide +kernel
theorem d_M_alike_1 : decode b_M_alike 1 = .ok (.iconst 0, 1) := by decide +kernel
theorem d_M_alike_2 : decode b_M_alike 2 = .ok (.putfield 75, 3) := by decide +kernel
theorem d_M_alike_5 : decode b_M_alike 5 = .ok (.iload_n 1, 1) := by decide +kernel
theorem d_M_alike_6 : decode b_M_alike 6 = .ok (.ifCond .lt 24, 3) := by decide +kernel
theorem d_M_alike_9 : decode b_M_alike 9 = .ok (.iload_n 1, 1) := by decide +kernel
theorem d_M_alike_10 : decode b_M_alike 10 = .ok (.iconst 3, 1) := by decide +kernel
theorem d_M_alike_11 : decode b_M_alike 11 = .ok (.if_icmp .gt 19, 3) := by decide +kernel
theorem d_M_alike_14 : decode b_M_alike 14 = .ok (.iload_n 1, 1) := by decide +kernel
theorem d_M_alike_15 : decode b_M_alike 15 = .ok (.iconst 3, 1) := by decide +kernel
theorem d_M_alike_16 : decode b_M_alike 16 = .ok (.if_icmp .ne 16, 3) := by decide +kernel
theorem d_M_alike_19 : decode b_M_alike 19 = .ok (.aload_n 0, 1) := by decide +kernel
theorem d_M_alike_20 : decode b_M_alike 20 = .ok (.getfield 65, 3) := by decide +kernel
theorem d_M_alike_23 : decode b_M_alike 23 = .ok (.aload_n 0, 1) := by decide +kernel
theorem d_M_alike_24 : decode b_M_alike 24 = .ok (.getfield 69, 3) := by decide +kernel
theorem d_M_alike_27 : decode b_M_alike 27 = .ok (.if_icmp .eq 5, 3) := by decide +kernel
theorem d_M_alike_30 : decode b_M_alike 30 = .ok (.iconst 0, 1) := by decide +kernel
theorem d_M_alike_31 : decode b_M_alike 31 = .ok (.ireturn, 1) := by decide +kernel
theorem d_M_alike_32 : decode b_M_alike 32 = .ok (.iconst 0, 1) := by decide +kernel
theorem d_M_alike_33 : decode b_M_alike 33 = .ok (.istore_n 2, 1) := by decide +kernel
theorem d_M_alike_34 : decode b_M_alike 34 = .ok (.iload_n 2, 1) := by decide +kernel
theorem d_M_alike_35 : decode b_M_alike 35 = .ok (.aload_n 0, 1) := by decide +kernel
theorem d_M_alike_36 : decode b_M_alike 36 = .ok (.getfield 69, 3) := by decide +kernel
theorem d_M_alike_39 : decode b_M_alike 39 = .ok (.if_icmp .ge 114, 3) := by decide +kernel
theorem d_M_alike_42 : decode b_M_alike 42 = .ok (.iconst 0, 1) := by decide +kernel
theorem d_M_alike_43 : decode b_M_alike 43 = .ok (.istore_n 3, 1) := by decide +kernel
theorem d_M_alike_44 : decode b_M_alike 44 = .ok (.iload_n 3, 1) := by decide +kernel
theorem d_M_alike_45 : decode b_M_alike 45 = .ok (.aload_n 0, 1) := by decide +kernel
theorem d_M_alike_46 : decode b_M_alike 46 = .ok (.getfield 65, 3) := by decide +kernel
theorem d_M_alike_49 : decode b_M_alike 49 = .ok (.if_icmp .ge 98, 3) := by decide +kernel
theorem d_M_alike_52 : decode b_M_alike 52 = .ok (.iload_n 1, 1) := by decide +kernel
theorem d_M_alike_53 : decode b_M_alike 53 = .ok (.iconst 3, 1) := by decide +kernel
theorem d_M_alike_54 : decode b_M_alike 54 = .ok (.if_icmp .ne 7, 3) := by decide +kernel
theorem d_M_alike_57 : decode b_M_alike 57 = .ok (.iload_n 2, 1) := by decide +kernel
theorem d_M_alike_58 : decode b_M_alike 58 = .ok (.goto 20, 3) := by decide +kernel
theorem d_M_alike_61 : decode b_M_alike 61 = .ok (.iload_n 1, 1) := by decide +kernel
theorem d_M_alike_62 : decode b_M_alike 62 = .ok (.iconst 2, 1) := by decide +kernel
theorem d_M_alike_63 : decode b_M_alike 63 = .ok (.if_icmp .ne 7, 3) := by decide +kernel
theorem d_M_alike_66 : decode b_M_alike 66 = .ok (.iload_n 3, 1) := by decide +kernel
theorem d_M_alike_67 : decode b_M_alike 67 = .ok (.goto 11, 3) := by decide +kernel
theorem d_M_alike_70 : decode b_M_alike 70 = .ok (.aload_n 0, 1) := by decide +kernel
theorem d_M_alike_71 : decode b_M_alike 71 = .ok (.getfield 65, 3) := by decide +kernel
theorem d_M_alike_74 : decode b_M_alike 74 = .ok (.iconst 1, 1) := by decide +kernel
theorem d_M_alike_75 : decode b_M_alike 75 = .ok (.isub, 1) := by decide +kernel
theorem d_M_alike_76 : decode b_M_alike 76 = .ok (.iload_n 3, 1) := by decide +kernel
theorem d_M_alike_77 : decode b_M_alike 77 = .ok (.isub, 1) := by decide +kernel
theorem d_M_alike_78 : decode b_M_alike 78 = .ok (.istore 4, 2) := by decide +kernel
theorem d_M_alike_80 : decode b_M_alike 80 = .ok (.iload_n 1, 1) := by decide +kernel
theorem d_M_alike_81 : decode b_M_alike 81 = .ok (.iconst 3, 1) := by decide +kernel
theorem d_M_alike_82 : decode b_M_alike 82 = .ok (.if_icmp .ne 7, 3) := by decide +kernel
theorem d_M_alike_85 : decode b_M_alike 85 = .ok (.iload_n 3, 1) := by decide +kernel
theorem d_M_alike_86 : decode b_M_alike 86 = .ok (.goto 20, 3) := by decide +kernel
theorem d_M_alike_89 : decode b_M_alike 89 = .ok (.iload_n 1, 1) := by decide +kernel
theorem d_M_alike_90 : decode b_M_alike 90 = .ok (.iconst 1, 1) := by decide +kernel
theorem d_M_alike_91 : decode b_M_alike 91 = .ok (.if_icmp .ne 7, 3) := by decide +kernel
theorem d_M_alike_94 : decode b_M_alike 94 = .ok (.iload_n 2, 1) := by decide +kernel
theorem d_M_alike_95 : decode b_M_alike 95 = .ok (.goto 11, 3) := by decide +kernel
theorem d_M_alike_98 : decode b_M_alike 98 = .ok (.aload_n 0, 1) := by decide +kernel
theorem d_M_alike_99 : decode b_M_alike 99 = .ok (.getfield 69, 3) := by decide +kernel
theorem d_M_alike_102 : decode b_M_alike 102 = .ok (.iconst 1, 1) := by decide +kernel
theorem d_M_alike_103 : decode b_M_alike 103 = .ok (.isub, 1) := by decide +kernel
theorem d_M_alike_104 : decode b_M_alike 104 = .ok (.iload_n 2, 1) := by decide +kernel
theorem d_M_alike_105 : decode b_M_alike 105 = .ok (.isub, 1) := by decide +kernel
theorem d_M_alike_106 : decode b_M_alike 106 = .ok (.istore 5, 2) := by decide +kernel
theorem d_M_alike_108 : decode b_M_alike 108 = .ok (.aload_n 0, 1) := by decide +kernel
theorem d_M_alike_109 : decode b_M_alike 109 = .ok (.getfield 7, 3) := by decide +kernel
theorem d_M_alike_112 : decode b_M_alike 112 = .ok (.aload_n 0, 1) := by decide +kernel
theorem d_M_alike_113 : decode b_M_alike 113 = .ok (.getfield 65, 3) := by decide +kernel
theorem d_M_alike_116 : decode b_M_alike 116 = .ok (.iload_n 2, 1) := by decide +kernel
theorem d_M_alike_117 : decode b_M_alike 117 = .ok (.imul, 1) := by decide +kernel
theorem d_M_alike_118 : decode b_M_alike 118 = .ok (.iload_n 3, 1) := by decide +kernel
theorem d_M_alike_119 : decode b_M_alike 119 = .ok (.iadd, 1) := by decide +kernel
theorem d_M_alike_120 : decode b_M_alike 120 = .ok (.baload, 1) := by decide +kernel
theorem d_M_alike_121 : decode b_M_alike 121 = .ok (.aload_n 0, 1) := by decide +kernel
theorem d_M_alike_122 : decode b_M_alike 122 = .ok (.getfield 7, 3) := by decide +kernel
theorem d_M_alike_125 : decode b_M_alike 125 = .ok (.aload_n 0, 1) := by decide +kernel
theorem d_M_alike_126 : decode b_M_alike 126 = .ok (.getfield 65, 3) := by decide +kernel
theorem d_M_alike_129 : decode b_M_alike 129 = .ok (.iload 5, 2) := by decide +kernel
theorem d_M_alike_131 : decode b_M_alike 131 = .ok (.imul, 1) := by decide +kernel
theorem d_M_alike_132 : decode b_M_alike 132 = .ok (.iload 4, 2) := by decide +kernel
theorem d_M_alike_134 : decode b_M_alike 134 = .ok (.iadd, 1) := by decide +kernel
theorem d_M_alike_135 : decode b_M_alike 135 = .ok (.baload, 1) := by decide +kernel
theorem d_M_alike_136 : decode b_M_alike 136 = .ok (.if_icmp .eq 5, 3) := by decide +kernel
theorem d_M_alike_139 : decode b_M_alike 139 = .ok (.iconst 0, 1) := by decide +kernel
theorem d_M_alike_140 : decode b_M_alike 140 = .ok (.ireturn, 1) := by decide +kernel
theorem d_M_alike_141 : decode b_M_alike 141 = .ok (.iinc 3 1, 3) := by decide +kernel
theorem d_M_alike_144 : decode b_M_alike 144 = .ok (.goto (-100), 3) := by decide +kernel
theorem d_M_alike_147 : decode b_M_alike 147 = .ok (.iinc 2 1, 3) := by decide +kernel
theorem d_M_alike_150 : decode b_M_alike 150 = .ok (.goto (-116), 3) := by decide +kernel
theorem d_M_alike_153 : decode b_M_alike 153 = .ok (.iconst 1, 1) := by decide +kernel
theorem d_M_alike_154 : decode b_M_alike 154 = .ok (.ireturn, 1) := by decide +kernel
theorem d_M_isSeen_0 : decode b_M_isSeen 0 = .ok (.aload_n 0, 1) := by decide +kernel
theorem d_M_isSeen_1 : decode b_M_isSeen 1 = .ok (.iload_n 1, 1) := by decide +kernel
theorem d_M_isSeen_2 : decode b_M_isSeen 2 = .ok (.iload_n 2, 1) := by decide +kernel
theorem d_M_isSeen_3 : decode b_M_isSeen 3 = .ok (.invokevirtual 78, 3) := by decide +kernel
theorem d_M_isSeen_6 : decode b_M_isSeen 6 = .ok (.ifCond .eq 23, 3) := by decide +kernel
theorem d_M_isSeen_9 : decode b_M_isSeen 9 = .ok (.aload_n 0, 1) := by decide +kernel
theorem d_M_isSeen_10 : decode b_M_isSeen 10 = .ok (.getfield 62, 3) := by decide +kernel
theorem d_M_isSeen_13 : decode b_M_isSeen 13 = .ok (.aload_n 0, 1) := by decide +kernel
theorem d_M_isSeen_14 : decode b_M_isSeen 14 = .ok (.getfield 65, 3) := by decide +kernel
theorem d_M_isSeen_17 : decode b_M_isSeen 17 = .ok (.iload_n 2, 1) := by decide +kernel
theorem d_M_isSeen_18 : decode b_M_isSeen 18 = .ok (.imul, 1) := by decide +kernel
theorem d_M_isSeen_19 : decode b_M_isSeen 19 = .ok (.iload_n 1, 1) := by decide +kernel
theorem d_M_isSeen_20 : decode b_M_isSeen 20 = .ok (.iadd, 1) := by decide +kernel
theorem d_M_isSeen_21 : decode b_M_isSeen 21 = .ok (.baload, 1) := by decide +kernel
theorem d_M_isSeen_22 : decode b_M_isSeen 22 = .ok (.ifCond .eq 7, 3) := by decide +kernel
theorem d_M_isSeen_25 : decode b_M_isSeen 25 = .ok (.iconst 1, 1) := by decide +kernel
theorem d_M_isSeen_26 : decode b_M_isSeen 26 = .ok (.goto 4, 3) := by decide +kernel
theorem d_M_isSeen_29 : decode b_M_isSeen 29 = .ok (.iconst 0, 1) := by decide +kernel
theorem d_M_isSeen_30 : decode b_M_isSeen 30 = .ok (.ireturn, 1) := by decide +kernel
theorem d_M_parts_0 : decode b_M_parts 0 = .ok (.aload_n 0, 1) := by decide +kernel
theorem d_M_parts_1 : decode b_M_parts 1 = .ok (.iconst 0, 1) := by decide +kernel
theorem d_M_parts_2 : decode b_M_parts 2 = .ok (.putfield 75, 3) := by decide +kernel
theorem d_M_parts_5 : decode b_M_parts 5 = .ok (.iconst 0, 1) := by decide +kernel
theorem d_M_parts_6 : decode b_M_parts 6 = .ok (.istore_n 1, 1) := by decide +kernel
theorem d_M_parts_7 : decode b_M_parts 7 = .ok (.iload_n 1, 1) := by decide +kernel
theorem d_M_parts_8 : decode b_M_parts 8 = .ok (.bipush 36, 2) := by decide +kernel
theorem d_M_parts_10 : decode b_M_parts 10 = .ok (.if_icmp .ge 16, 3) := by decide +kernel
theorem d_M_parts_13 : decode b_M_parts 13 = .ok (.aload_n 0, 1) := by decide +kernel
theorem d_M_parts_14 : decode b_M_parts 14 = .ok (.getfield 62, 3) := by decide +kernel
theorem d_M_parts_17 : decode b_M_parts 17 = .ok (.iload_n 1, 1) := by decide +kernel
theorem d_M_parts_18 : decode b_M_parts 18 = .ok (.iconst 0, 1) := by decide +kernel
theorem d_M_parts_19 : decode b_M_parts 19 = .ok (.bastore, 1) := by decide +kernel
theorem d_M_parts_20 : decode b_M_parts 20 = .ok (.iinc 1 1, 3) := by decide +kernel
theorem d_M_parts_23 : decode b_M_parts 23 = .ok (.goto (-16), 3) := by decide +kernel
theorem d_M_parts_26 : decode b_M_parts 26 = .ok (.iconst 0, 1) := by decide +kernel
theorem d_M_parts_27 : decode b_M_parts 27 = .ok (.istore_n 1, 1) := by decide +kernel
theorem d_M_parts_28 : decode b_M_parts 28 = .ok (.iconst 0, 1) := by decide +kernel
theorem d_M_parts_29 : decode b_M_parts 29 = .ok (.istore_n 2, 1) := by decide +kernel
theorem d_M_parts_30 : decode b_M_parts 30 = .ok (.iload_n 2, 1) := by decide +kernel
theorem d_M_parts_31 : decode b_M_parts 31 = .ok (.aload_n 0, 1) := by decide +kernel
theorem d_M_parts_32 : decode b_M_parts 32 = .ok (.getfield 65, 3) := by decide +kernel
theorem d_M_parts_35 : decode b_M_parts 35 = .ok (.aload_n 0, 1) := by decide +kernel
theorem d_M_parts_36 : decode b_M_parts 36 = .ok (.getfield 69, 3) := by decide +kernel
theorem d_M_parts_39 : decode b_M_parts 39 = .ok (.imul, 1) := by decide +kernel
theorem d_M_parts_40 : decode b_M_parts 40 = .ok (.if_icmp .ge 198, 3) := by decide +kernel
theorem d_M_parts_43 : decode b_M_parts 43 = .ok (.aload_n 0, 1) := by decide +kernel
theorem d_M_parts_44 : decode b_M_parts 44 = .ok (.getfield 7, 3) := by decide +kernel
theorem d_M_parts_47 : decode b_M_parts 47 = .ok (.iload_n 2, 1) := by decide +kernel
theorem d_M_parts_48 : decode b_M_parts 48 = .ok (.baload, 1) := by decide +kernel
theorem d_M_parts_49 : decode b_M_parts 49 = .ok (.ifCond .ne 183, 3) := by decide +kernel
theorem d_M_parts_52 : decode b_M_parts 52 = .ok (.aload_n 0, 1) := by decide +kernel
theorem d_M_parts_53 : decode b_M_parts 53 = .ok (.getfield 62, 3) := by decide +kernel
theorem d_M_parts_56 : decode b_M_parts 56 = .ok (.iload_n 2, 1) := by decide +kernel
theorem d_M_parts_57 : decode b_M_parts 57 = .ok (.baload, 1) := by decide +kernel
theorem d_M_parts_58 : decode b_M_parts 58 = .ok (.ifCond .eq 6, 3) := by decide +kernel
theorem d_M_parts_61 : decode b_M_parts 61 = .ok (.goto 171, 3) := by decide +kernel
theorem d_M_parts_64 : decode b_M_parts 64 = .ok (.iinc 1 1, 3) := by decide +kernel
theorem d_M_parts_67 : decode b_M_parts 67 = .ok (.aload_n 0, 1) := by decide +kernel
theorem d_M_parts_68 : decode b_M_parts 68 = .ok (.getfield 62, 3) := by decide +kernel
theorem d_M_parts_71 : decode b_M_parts 71 = .ok (.iload_n 2, 1) := by decide +kernel
theorem d_M_parts_72 : decode b_M_parts 72 = .ok (.iconst 1, 1) := by decide +kernel
theorem d_M_parts_73 : decode b_M_parts 73 = .ok (.bastore, 1) := by decide +kernel
theorem d_M_parts_74 : decode b_M_parts 74 = .ok (.iconst 1, 1) := by decide +kernel
theorem d_M_parts_75 : decode b_M_parts 75 = .ok (.istore_n 3, 1) := by decide +kernel
theorem d_M_parts_76 : decode b_M_parts 76 = .ok (.iload_n 3, 1) := by decide +kernel
theorem d_M_parts_77 : decode b_M_parts 77 = .ok (.ifCond .eq 155, 3) := by decide +kernel
theorem d_M_parts_80 : decode b_M_parts 80 = .ok (.iconst 0, 1) := by decide +kernel
theorem d_M_parts_81 : decode b_M_parts 81 = .ok (.istore_n 3, 1) := by decide +kernel
theorem d_M_parts_82 : decode b_M_parts 82 = .ok (.iconst 0, 1) := by decide +kernel
theorem d_M_parts_83 : decode b_M_parts 83 = .ok (.istore 4, 2) := by decide +kernel
theorem d_M_parts_85 : decode b_M_parts 85 = .ok (.iload 4, 2) := by decide +kernel
theorem d_M_parts_87 : decode b_M_parts 87 = .ok (.aload_n 0, 1) := by decide +kernel
theorem d_M_parts_88 : decode b_M_parts 88 = .ok (.getfield 65, 3) := by decide +kernel
