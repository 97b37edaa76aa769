theorem d_M_parts_91 : decode b_M_parts 91 = .ok (.aload_n 0, 1) := by decide +kernel
theorem d_M_parts_92 : decode b_M_parts 92 = .ok (.getfield 69, 3) := by decide +kernel
theorem d_M_parts_95 : decode b_M_parts 95 = .ok (.imul, 1) := by decide +kernel
theorem d_M_parts_96 : decode b_M_parts 96 = .ok (.if_icmp .ge 133, 3) := by decide +kernel
theorem d_M_parts_99 : decode b_M_parts 99 = .ok (.aload_n 0, 1) := by decide +kernel
theorem d_M_parts_100 : decode b_M_parts 100 = .ok (.getfield 7, 3) := by decide +kernel
theorem d_M_parts_103 : decode b_M_parts 103 = .ok (.iload 4, 2) := by decide +kernel
theorem d_M_parts_105 : decode b_M_parts 105 = .ok (.baload, 1) := by decide +kernel
theorem d_M_parts_106 : decode b_M_parts 106 = .ok (.ifCond .ne 117, 3) := by decide +kernel
theorem d_M_parts_109 : decode b_M_parts 109 = .ok (.aload_n 0, 1) := by decide +kernel
theorem d_M_parts_110 : decode b_M_parts 110 = .ok (.getfield 62, 3) := by decide +kernel
theorem d_M_parts_113 : decode b_M_parts 113 = .ok (.iload 4, 2) := by decide +kernel
theorem d_M_parts_115 : decode b_M_parts 115 = .ok (.baload, 1) := by decide +kernel
theorem d_M_parts_116 : decode b_M_parts 116 = .ok (.ifCond .eq 6, 3) := by decide +kernel
theorem d_M_parts_119 : decode b_M_parts 119 = .ok (.goto 104, 3) := by decide +kernel
theorem d_M_parts_122 : decode b_M_parts 122 = .ok (.iload 4, 2) := by decide +kernel
theorem d_M_parts_124 : decode b_M_parts 124 = .ok (.aload_n 0, 1) := by decide +kernel
theorem d_M_parts_125 : decode b_M_parts 125 = .ok (.getfield 65, 3) := by decide +kernel
theorem d_M_parts_128 : decode b_M_parts 128 = .ok (.irem, 1) := by decide +kernel
theorem d_M_parts_129 : decode b_M_parts 129 = .ok (.istore 5, 2) := by decide +kernel
theorem d_M_parts_131 : decode b_M_parts 131 = .ok (.iload 4, 2) := by decide +kernel
theorem d_M_parts_133 : decode b_M_parts 133 = .ok (.aload_n 0, 1) := by decide +kernel
theorem d_M_parts_134 : decode b_M_parts 134 = .ok (.getfield 65, 3) := by decide +kernel
theorem d_M_parts_137 : decode b_M_parts 137 = .ok (.idiv, 1) := by decide +kernel
theorem d_M_parts_138 : decode b_M_parts 138 = .ok (.istore 6, 2) := by decide +kernel
theorem d_M_parts_140 : decode b_M_parts 140 = .ok (.aload_n 0, 1) := by decide +kernel
theorem d_M_parts_141 : decode b_M_parts 141 = .ok (.iload 5, 2) := by decide +kernel
theorem d_M_parts_143 : decode b_M_parts 143 = .ok (.iconst 1, 1) := by decide +kernel
theorem d_M_parts_144 : decode b_M_parts 144 = .ok (.isub, 1) := by decide +kernel
theorem d_M_parts_145 : decode b_M_parts 145 = .ok (.iload 6, 2) := by decide +kernel
theorem d_M_parts_147 : decode b_M_parts 147 = .ok (.invokevirtual 154, 3) := by decide +kernel
theorem d_M_parts_150 : decode b_M_parts 150 = .ok (.ifCond .ne 42, 3) := by decide +kernel
theorem d_M_parts_153 : decode b_M_parts 153 = .ok (.aload_n 0, 1) := by decide +kernel
theorem d_M_parts_154 : decode b_M_parts 154 = .ok (.iload 5, 2) := by decide +kernel
theorem d_M_parts_156 : decode b_M_parts 156 = .ok (.iconst 1, 1) := by decide +kernel
theorem d_M_parts_157 : decode b_M_parts 157 = .ok (.iadd, 1) := by decide +kernel
theorem d_M_parts_158 : decode b_M_parts 158 = .ok (.iload 6, 2) := by decide +kernel
theorem d_M_parts_160 : decode b_M_parts 160 = .ok (.invokevirtual 154, 3) := by decide +kernel
theorem d_M_parts_163 : decode b_M_parts 163 = .ok (.ifCond .ne 29, 3) := by decide +kernel
theorem d_M_parts_166 : decode b_M_parts 166 = .ok (.aload_n 0, 1) := by decide +kernel
theorem d_M_parts_167 : decode b_M_parts 167 = .ok (.iload 5, 2) := by decide +kernel
theorem d_M_parts_169 : decode b_M_parts 169 = .ok (.iload 6, 2) := by decide +kernel
theorem d_M_parts_171 : decode b_M_parts 171 = .ok (.iconst 1, 1) := by decide +kernel
theorem d_M_parts_172 : decode b_M_parts 172 = .ok (.isub, 1) := by decide +kernel
theorem d_M_parts_173 : decode b_M_parts 173 = .ok (.invokevirtual 154, 3) := by decide +kernel
theorem d_M_parts_176 : decode b_M_parts 176 = .ok (.ifCond .ne 16, 3) := by decide +kernel
theorem d_M_parts_179 : decode b_M_parts 179 = .ok (.aload_n 0, 1) := by decide +kernel
theorem d_M_parts_180 : decode b_M_parts 180 = .ok (.iload 5, 2) := by decide +kernel
theorem d_M_parts_182 : decode b_M_parts 182 = .ok (.iload 6, 2) := by decide +kernel
theorem d_M_parts_184 : decode b_M_parts 184 = .ok (.iconst 1, 1) := by decide +kernel
theorem d_M_parts_185 : decode b_M_parts 185 = .ok (.iadd, 1) := by decide +kernel
theorem d_M_parts_186 : decode b_M_parts 186 = .ok (.invokevirtual 154, 3) := by decide +kernel
theorem d_M_parts_189 : decode b_M_parts 189 = .ok (.ifCond .eq 7, 3) := by decide +kernel
theorem d_M_parts_192 : decode b_M_parts 192 = .ok (.iconst 1, 1) := by decide +kernel
theorem d_M_parts_193 : decode b_M_parts 193 = .ok (.goto 4, 3) := by decide +kernel
theorem d_M_parts_196 : decode b_M_parts 196 = .ok (.iconst 0, 1) := by decide +kernel
theorem d_M_parts_197 : decode b_M_parts 197 = .ok (.istore 7, 2) := by decide +kernel
theorem d_M_parts_199 : decode b_M_parts 199 = .ok (.aload_n 0, 1) := by decide +kernel
theorem d_M_parts_200 : decode b_M_parts 200 = .ok (.getfield 62, 3) := by decide +kernel
theorem d_M_parts_203 : decode b_M_parts 203 = .ok (.iload 4, 2) := by decide +kernel
theorem d_M_parts_205 : decode b_M_parts 205 = .ok (.iload 7, 2) := by decide +kernel
theorem d_M_parts_207 : decode b_M_parts 207 = .ok (.bastore, 1) := by decide +kernel
theorem d_M_parts_208 : decode b_M_parts 208 = .ok (.iload_n 3, 1) := by decide +kernel
theorem d_M_parts_209 : decode b_M_parts 209 = .ok (.ifCond .ne 8, 3) := by decide +kernel
theorem d_M_parts_212 : decode b_M_parts 212 = .ok (.iload 7, 2) := by decide +kernel
theorem d_M_parts_214 : decode b_M_parts 214 = .ok (.ifCond .eq 7, 3) := by decide +kernel
theorem d_M_parts_217 : decode b_M_parts 217 = .ok (.iconst 1, 1) := by decide +kernel
theorem d_M_parts_218 : decode b_M_parts 218 = .ok (.goto 4, 3) := by decide +kernel
theorem d_M_parts_221 : decode b_M_parts 221 = .ok (.iconst 0, 1) := by decide +kernel
theorem d_M_parts_222 : decode b_M_parts 222 = .ok (.istore_n 3, 1) := by decide +kernel
theorem d_M_parts_223 : decode b_M_parts 223 = .ok (.iinc 4 1, 3) := by decide +kernel
theorem d_M_parts_226 : decode b_M_parts 226 = .ok (.goto (-141), 3) := by decide +kernel
theorem d_M_parts_229 : decode b_M_parts 229 = .ok (.goto (-153), 3) := by decide +kernel
theorem d_M_parts_232 : decode b_M_parts 232 = .ok (.iinc 2 1, 3) := by decide +kernel
theorem d_M_parts_235 : decode b_M_parts 235 = .ok (.goto (-205), 3) := by decide +kernel
theorem d_M_parts_238 : decode b_M_parts 238 = .ok (.iload_n 1, 1) := by decide +kernel
theorem d_M_parts_239 : decode b_M_parts 239 = .ok (.ireturn, 1) := by decide +kernel
