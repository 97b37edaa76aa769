theorem d_W_cell_0 : decode b_W_cell 0 = .ok (.iload_n 1, 1) := by decide +kernel
theorem d_W_cell_1 : decode b_W_cell 1 = .ok (.aload_n 0, 1) := by decide +kernel
theorem d_W_cell_2 : decode b_W_cell 2 = .ok (.arraylength, 1) := by decide +kernel
theorem d_W_cell_3 : decode b_W_cell 3 = .ok (.if_icmp .ge 9, 3) := by decide +kernel
theorem d_W_cell_6 : decode b_W_cell 6 = .ok (.aload_n 0, 1) := by decide +kernel
theorem d_W_cell_7 : decode b_W_cell 7 = .ok (.iload_n 1, 1) := by decide +kernel
theorem d_W_cell_8 : decode b_W_cell 8 = .ok (.iaload, 1) := by decide +kernel
theorem d_W_cell_9 : decode b_W_cell 9 = .ok (.goto 4, 3) := by decide +kernel
theorem d_W_cell_12 : decode b_W_cell 12 = .ok (.iconst 0, 1) := by decide +kernel
theorem d_W_cell_13 : decode b_W_cell 13 = .ok (.ireturn, 1) := by decide +kernel
theorem d_W_law_0 : decode b_W_law 0 = .ok (.new 7, 3) := by decide +kernel
theorem d_W_law_3 : decode b_W_law 3 = .ok (.dup, 1) := by decide +kernel
theorem d_W_law_4 : decode b_W_law 4 = .ok (.aload_n 0, 1) := by decide +kernel
theorem d_W_law_5 : decode b_W_law 5 = .ok (.iconst 0, 1) := by decide +kernel
theorem d_W_law_6 : decode b_W_law 6 = .ok (.invokestatic 9, 3) := by decide +kernel
theorem d_W_law_9 : decode b_W_law 9 = .ok (.aload_n 0, 1) := by decide +kernel
theorem d_W_law_10 : decode b_W_law 10 = .ok (.iconst 1, 1) := by decide +kernel
theorem d_W_law_11 : decode b_W_law 11 = .ok (.invokestatic 9, 3) := by decide +kernel
theorem d_W_law_14 : decode b_W_law 14 = .ok (.invokespecial 15, 3) := by decide +kernel
theorem d_W_law_17 : decode b_W_law 17 = .ok (.astore_n 1, 1) := by decide +kernel
theorem d_W_law_18 : decode b_W_law 18 = .ok (.new 18, 3) := by decide +kernel
theorem d_W_law_21 : decode b_W_law 21 = .ok (.dup, 1) := by decide +kernel
theorem d_W_law_22 : decode b_W_law 22 = .ok (.aload_n 0, 1) := by decide +kernel
theorem d_W_law_23 : decode b_W_law 23 = .ok (.iconst 0, 1) := by decide +kernel
theorem d_W_law_24 : decode b_W_law 24 = .ok (.invokestatic 9, 3) := by decide +kernel
theorem d_W_law_27 : decode b_W_law 27 = .ok (.aload_n 0, 1) := by decide +kernel
theorem d_W_law_28 : decode b_W_law 28 = .ok (.iconst 1, 1) := by decide +kernel
theorem d_W_law_29 : decode b_W_law 29 = .ok (.invokestatic 9, 3) := by decide +kernel
theorem d_W_law_32 : decode b_W_law 32 = .ok (.invokespecial 20, 3) := by decide +kernel
theorem d_W_law_35 : decode b_W_law 35 = .ok (.astore_n 2, 1) := by decide +kernel
theorem d_W_law_36 : decode b_W_law 36 = .ok (.iconst 2, 1) := by decide +kernel
theorem d_W_law_37 : decode b_W_law 37 = .ok (.istore_n 3, 1) := by decide +kernel
theorem d_W_law_38 : decode b_W_law 38 = .ok (.iload_n 3, 1) := by decide +kernel
theorem d_W_law_39 : decode b_W_law 39 = .ok (.aload_n 0, 1) := by decide +kernel
theorem d_W_law_40 : decode b_W_law 40 = .ok (.arraylength, 1) := by decide +kernel
theorem d_W_law_41 : decode b_W_law 41 = .ok (.iconst 4, 1) := by decide +kernel
theorem d_W_law_42 : decode b_W_law 42 = .ok (.isub, 1) := by decide +kernel
theorem d_W_law_43 : decode b_W_law 43 = .ok (.if_icmp .gt 489, 3) := by decide +kernel
theorem d_W_law_46 : decode b_W_law 46 = .ok (.aload_n 0, 1) := by decide +kernel
theorem d_W_law_47 : decode b_W_law 47 = .ok (.iload_n 3, 1) := by decide +kernel
theorem d_W_law_48 : decode b_W_law 48 = .ok (.iaload, 1) := by decide +kernel
theorem d_W_law_49 : decode b_W_law 49 = .ok (.bipush 15, 2) := by decide +kernel
theorem d_W_law_51 : decode b_W_law 51 = .ok (.iand, 1) := by decide +kernel
theorem d_W_law_52 : decode b_W_law 52 = .ok (.tableswitch 474 0 15 #[80, 139, 162, 185, 228, 261, 274, 307, 330, 353, 366, 379, 392, 425, 438, 461], 80) := by decide +kernel
theorem d_W_law_132 : decode b_W_law 132 = .ok (.aload_n 1, 1) := by decide +kernel
theorem d_W_law_133 : decode b_W_law 133 = .ok (.aload_n 0, 1) := by decide +kernel
theorem d_W_law_134 : decode b_W_law 134 = .ok (.iload_n 3, 1) := by decide +kernel
theorem d_W_law_135 : decode b_W_law 135 = .ok (.iconst 1, 1) := by decide +kernel
theorem d_W_law_136 : decode b_W_law 136 = .ok (.iadd, 1) := by decide +kernel
theorem d_W_law_137 : decode b_W_law 137 = .ok (.iaload, 1) := by decide +kernel
theorem d_W_law_138 : decode b_W_law 138 = .ok (.aload_n 0, 1) := by decide +kernel
theorem d_W_law_139 : decode b_W_law 139 = .ok (.iload_n 3, 1) := by decide +kernel
theorem d_W_law_140 : decode b_W_law 140 = .ok (.iconst 2, 1) := by decide +kernel
theorem d_W_law_141 : decode b_W_law 141 = .ok (.iadd, 1) := by decide +kernel
theorem d_W_law_142 : decode b_W_law 142 = .ok (.iaload, 1) := by decide +kernel
theorem d_W_law_143 : decode b_W_law 143 = .ok (.aload_n 0, 1) := by decide +kernel
theorem d_W_law_144 : decode b_W_law 144 = .ok (.iload_n 3, 1) := by decide +kernel
theorem d_W_law_145 : decode b_W_law 145 = .ok (.iconst 3, 1) := by decide +kernel
theorem d_W_law_146 : decode b_W_law 146 = .ok (.iadd, 1) := by decide +kernel
theorem d_W_law_147 : decode b_W_law 147 = .ok (.iaload, 1) := by decide +kernel
theorem d_W_law_148 : decode b_W_law 148 = .ok (.ifCond .eq 7, 3) := by decide +kernel
theorem d_W_law_151 : decode b_W_law 151 = .ok (.iconst 1, 1) := by decide +kernel
theorem d_W_law_152 : decode b_W_law 152 = .ok (.goto 4, 3) := by decide +kernel
theorem d_W_law_155 : decode b_W_law 155 = .ok (.iconst 0, 1) := by decide +kernel
theorem d_W_law_156 : decode b_W_law 156 = .ok (.invokevirtual 21, 3) := by decide +kernel
theorem d_W_law_159 : decode b_W_law 159 = .ok (.aload_n 2, 1) := by decide +kernel
theorem d_W_law_160 : decode b_W_law 160 = .ok (.aload_n 0, 1) := by decide +kernel
theorem d_W_law_161 : decode b_W_law 161 = .ok (.iload_n 3, 1) := by decide +kernel
theorem d_W_law_162 : decode b_W_law 162 = .ok (.iconst 1, 1) := by decide +kernel
theorem d_W_law_163 : decode b_W_law 163 = .ok (.iadd, 1) := by decide +kernel
theorem d_W_law_164 : decode b_W_law 164 = .ok (.iaload, 1) := by decide +kernel
theorem d_W_law_165 : decode b_W_law 165 = .ok (.aload_n 0, 1) := by decide +kernel
theorem d_W_law_166 : decode b_W_law 166 = .ok (.iload_n 3, 1) := by decide +kernel
theorem d_W_law_167 : decode b_W_law 167 = .ok (.iconst 2, 1) := by decide +kernel
theorem d_W_law_168 : decode b_W_law 168 = .ok (.iadd, 1) := by decide +kernel
theorem d_W_law_169 : decode b_W_law 169 = .ok (.iaload, 1) := by decide +kernel
theorem d_W_law_170 : decode b_W_law 170 = .ok (.aload_n 0, 1) := by decide +kernel
theorem d_W_law_171 : decode b_W_law 171 = .ok (.iload_n 3, 1) := by decide +kernel
theorem d_W_law_172 : decode b_W_law 172 = .ok (.iconst 3, 1) := by decide +kernel
theorem d_W_law_173 : decode b_W_law 173 = .ok (.iadd, 1) := by decide +kernel
theorem d_W_law_174 : decode b_W_law 174 = .ok (.iaload, 1) := by decide +kernel
theorem d_W_law_175 : decode b_W_law 175 = .ok (.ifCond .eq 7, 3) := by decide +kernel
theorem d_W_law_178 : decode b_W_law 178 = .ok (.iconst 1, 1) := by decide +kernel
theorem d_W_law_179 : decode b_W_law 179 = .ok (.goto 4, 3) := by decide +kernel
theorem d_W_law_182 : decode b_W_law 182 = .ok (.iconst 0, 1) := by decide +kernel
theorem d_W_law_183 : decode b_W_law 183 = .ok (.invokevirtual 25, 3) := by decide +kernel
theorem d_W_law_186 : decode b_W_law 186 = .ok (.if_icmp .eq 340, 3) := by decide +kernel
theorem d_W_law_189 : decode b_W_law 189 = .ok (.iconst 0, 1) := by decide +kernel
theorem d_W_law_190 : decode b_W_law 190 = .ok (.ireturn, 1) := by decide +kernel
theorem d_W_law_191 : decode b_W_law 191 = .ok (.aload_n 1, 1) := by decide +kernel
theorem d_W_law_192 : decode b_W_law 192 = .ok (.aload_n 0, 1) := by decide +kernel
theorem d_W_law_193 : decode b_W_law 193 = .ok (.iload_n 3, 1) := by decide +kernel
theorem d_W_law_194 : decode b_W_law 194 = .ok (.iconst 1, 1) := by decide +kernel
theorem d_W_law_195 : decode b_W_law 195 = .ok (.iadd, 1) := by decide +kernel
theorem d_W_law_196 : decode b_W_law 196 = .ok (.iaload, 1) := by decide +kernel
theorem d_W_law_197 : decode b_W_law 197 = .ok (.invokevirtual 26, 3) := by decide +kernel
theorem d_W_law_200 : decode b_W_law 200 = .ok (.aload_n 2, 1) := by decide +kernel
theorem d_W_law_201 : decode b_W_law 201 = .ok (.aload_n 0, 1) := by decide +kernel
theorem d_W_law_202 : decode b_W_law 202 = .ok (.iload_n 3, 1) := by decide +kernel
theorem d_W_law_203 : decode b_W_law 203 = .ok (.iconst 1, 1) := by decide +kernel
theorem d_W_law_204 : decode b_W_law 204 = .ok (.iadd, 1) := by decide +kernel
theorem d_W_law_205 : decode b_W_law 205 = .ok (.iaload, 1) := by decide +kernel
theorem d_W_law_206 : decode b_W_law 206 = .ok (.invokevirtual 30, 3) := by decide +kernel
theorem d_W_law_209 : decode b_W_law 209 = .ok (.if_icmp .eq 317, 3) := by decide +kernel
theorem d_W_law_212 : decode b_W_law 212 = .ok (.iconst 0, 1) := by decide +kernel
theorem d_W_law_213 : decode b_W_law 213 = .ok (.ireturn, 1) := by decide +kernel
theorem d_W_law_214 : decode b_W_law 214 = .ok (.aload_n 1, 1) := by decide +kernel
theorem d_W_law_215 : decode b_W_law 215 = .ok (.aload_n 0, 1) := by decide +kernel
theorem d_W_law_216 : decode b_W_law 216 = .ok (.iload_n 3, 1) := by decide +kernel
theorem d_W_law_217 : decode b_W_law 217 = .ok (.iconst 1, 1) := by decide +kernel
theorem d_W_law_218 : decode b_W_law 218 = .ok (.iadd, 1) := by decide +kernel
theorem d_W_law_219 : decode b_W_law 219 = .ok (.iaload, 1) := by decide +kernel
theorem d_W_law_220 : decode b_W_law 220 = .ok (.invokevirtual 31, 3) := by decide +kernel
theorem d_W_law_223 : decode b_W_law 223 = .ok (.aload_n 2, 1) := by decide +kernel
theorem d_W_law_224 : decode b_W_law 224 = .ok (.aload_n 0, 1) := by decide +kernel
theorem d_W_law_225 : decode b_W_law 225 = .ok (.iload_n 3, 1) := by decide +kernel
theorem d_W_law_226 : decode b_W_law 226 = .ok (.iconst 1, 1) := by decide +kernel
theorem d_W_law_227 : decode b_W_law 227 = .ok (.iadd, 1) := by decide +kernel
theorem d_W_law_228 : decode b_W_law 228 = .ok (.iaload, 1) := by decide +kernel
theorem d_W_law_229 : decode b_W_law 229 = .ok (.invokevirtual 35, 3) := by decide +kernel
theorem d_W_law_232 : decode b_W_law 232 = .ok (.if_icmp .eq 294, 3) := by decide +kernel
theorem d_W_law_235 : decode b_W_law 235 = .ok (.iconst 0, 1) := by decide +kernel
theorem d_W_law_236 : decode b_W_law 236 = .ok (.ireturn, 1) := by decide +kernel
theorem d_W_law_237 : decode b_W_law 237 = .ok (.aload_n 1, 1) := by decide +kernel
theorem d_W_law_238 : decode b_W_law 238 = .ok (.aload_n 0, 1) := by decide +kernel
theorem d_W_law_239 : decode b_W_law 239 = .ok (.iload_n 3, 1) := by decide +kernel
theorem d_W_law_240 : decode b_W_law 240 = .ok (.iconst 1, 1) := by decide +kernel
theorem d_W_law_241 : decode b_W_law 241 = .ok (.iadd, 1) := by decide +kernel
theorem d_W_law_242 : decode b_W_law 242 = .ok (.iaload, 1) := by decide +kernel
theorem d_W_law_243 : decode b_W_law 243 = .ok (.aload_n 0, 1) := by decide +kernel
theorem d_W_law_244 : decode b_W_law 244 = .ok (.iload_n 3, 1) := by decide +kernel
theorem d_W_law_245 : decode b_W_law 245 = .ok (.iconst 2, 1) := by decide +kernel
theorem d_W_law_246 : decode b_W_law 246 = .ok (.iadd, 1) := by decide +kernel
theorem d_W_law_247 : decode b_W_law 247 = .ok (.iaload, 1) := by decide +kernel
theorem d_W_law_248 : decode b_W_law 248 = .ok (.aload_n 0, 1) := by decide +kernel
theorem d_W_law_249 : decode b_W_law 249 = .ok (.iload_n 3, 1) := by decide +kernel
theorem d_W_law_250 : decode b_W_law 250 = .ok (.iconst 3, 1) := by decide +kernel
theorem d_W_law_251 : decode b_W_law 251 = .ok (.iadd, 1) := by decide +kernel
theorem d_W_law_252 : decode b_W_law 252 = .ok (.iaload, 1) := by decide +kernel
theorem d_W_law_253 : decode b_W_law 253 = .ok (.invokevirtual 36, 3) := by decide +kernel
theorem d_W_law_256 : decode b_W_law 256 = .ok (.aload_n 2, 1) := by decide +kernel
theorem d_W_law_257 : decode b_W_law 257 = .ok (.aload_n 0, 1) := by decide +kernel
theorem d_W_law_258 : decode b_W_law 258 = .ok (.iload_n 3, 1) := by decide +kernel
theorem d_W_law_259 : decode b_W_law 259 = .ok (.iconst 1, 1) := by decide +kernel
theorem d_W_law_260 : decode b_W_law 260 = .ok (.iadd, 1) := by decide +kernel
theorem d_W_law_261 : decode b_W_law 261 = .ok (.iaload, 1) := by decide +kernel
theorem d_W_law_262 : decode b_W_law 262 = .ok (.aload_n 0, 1) := by decide +kernel
theorem d_W_law_263 : decode b_W_law 263 = .ok (.iload_n 3, 1) := by decide +kernel
theorem d_W_law_264 : decode b_W_law 264 = .ok (.iconst 2, 1) := by decide +kernel
theorem d_W_law_265 : decode b_W_law 265 = .ok (.iadd, 1) := by decide +kernel
theorem d_W_law_266 : decode b_W_law 266 = .ok (.iaload, 1) := by decide +kernel
theorem d_W_law_267 : decode b_W_law 267 = .ok (.aload_n 0, 1) := by decide +kernel
theorem d_W_law_268 : decode b_W_law 268 = .ok (.iload_n 3, 1) := by decide +kernel
theorem d_W_law_269 : decode b_W_law 269 = .ok (.iconst 3, 1) := by decide +kernel
theorem d_W_law_270 : decode b_W_law 270 = .ok (.iadd, 1) := by decide +kernel
theorem d_W_law_271 : decode b_W_law 271 = .ok (.iaload, 1) := by decide +kernel
theorem d_W_law_272 : decode b_W_law 272 = .ok (.invokevirtual 40, 3) := by decide +kernel
theorem d_W_law_275 : decode b_W_law 275 = .ok (.if_icmp .eq 251, 3) := by decide +kernel
theorem d_W_law_278 : decode b_W_law 278 = .ok (.iconst 0, 1) := by decide +kernel
theorem d_W_law_279 : decode b_W_law 279 = .ok (.ireturn, 1) := by decide +kernel
theorem d_W_law_280 : decode b_W_law 280 = .ok (.aload_n 1, 1) := by decide +kernel
theorem d_W_law_281 : decode b_W_law 281 = .ok (.aload_n 0, 1) := by decide +kernel
theorem d_W_law_282 : decode b_W_law 282 = .ok (.iload_n 3, 1) := by decide +kernel
theorem d_W_law_283 : decode b_W_law 283 = .ok (.iconst 1, 1) := by decide +kernel
theorem d_W_law_284 : decode b_W_law 284 = .ok (.iadd, 1) := by decide +kernel
theorem d_W_law_285 : decode b_W_law 285 = .ok (.iaload, 1) := by decide +kernel
theorem d_W_law_286 : decode b_W_law 286 = .ok (.aload_n 0, 1) := by decide +kernel
theorem d_W_law_287 : decode b_W_law 287 = .ok (.iload_n 3, 1) := by decide +kernel
theorem d_W_law_288 : decode b_W_law 288 = .ok (.iconst 2, 1) := by decide +kernel
theorem d_W_law_289 : decode b_W_law 289 = .ok (.iadd, 1) := by decide +kernel
theorem d_W_law_290 : decode b_W_law 290 = .ok (.iaload, 1) := by decide +kernel
theorem d_W_law_291 : decode b_W_law 291 = .ok (.invokevirtual 41, 3) := by decide +kernel
theorem d_W_law_294 : decode b_W_law 294 = .ok (.aload_n 2, 1) := by decide +kernel
theorem d_W_law_295 : decode b_W_law 295 = .ok (.aload_n 0, 1) := by decide +kernel
theorem d_W_law_296 : decode b_W_law 296 = .ok (.iload_n 3, 1) := by decide +kernel
theorem d_W_law_297 : decode b_W_law 297 = .ok (.iconst 1, 1) := by decide +kernel
theorem d_W_law_298 : decode b_W_law 298 = .ok (.iadd, 1) := by decide +kernel
theorem d_W_law_299 : decode b_W_law 299 = .ok (.iaload, 1) := by decide +kernel
theorem d_W_law_300 : decode b_W_law 300 = .ok (.aload_n 0, 1) := by decide +kernel
theorem d_W_law_301 : decode b_W_law 301 = .ok (.iload_n 3, 1) := by decide +kernel
theorem d_W_law_302 : decode b_W_law 302 = .ok (.iconst 2, 1) := by decide +kernel
theorem d_W_law_303 : decode b_W_law 303 = .ok (.iadd, 1) := by decide +kernel
theorem d_W_law_304 : decode b_W_law 304 = .ok (.iaload, 1) := by decide +kernel
theorem d_W_law_305 : decode b_W_law 305 = .ok (.invokevirtual 45, 3) := by decide +kernel
theorem d_W_law_308 : decode b_W_law 308 = .ok (.if_icmp .eq 218, 3) := by decide +kernel
theorem d_W_law_311 : decode b_W_law 311 = .ok (.iconst 0, 1) := by decide +kernel
theorem d_W_law_312 : decode b_W_law 312 = .ok (.ireturn, 1) := by decide +kernel
theorem d_W_law_313 : decode b_W_law 313 = .ok (.aload_n 1, 1) := by decide +kernel
theorem d_W_law_314 : decode b_W_law 314 = .ok (.invokevirtual 46, 3) := by decide +kernel
theorem d_W_law_317 : decode b_W_law 317 = .ok (.aload_n 2, 1) := by decide +kernel
theorem d_W_law_318 : decode b_W_law 318 = .ok (.invokevirtual 50, 3) := by decide +kernel
theorem d_W_law_321 : decode b_W_law 321 = .ok (.if_icmp .eq 205, 3) := by decide +kernel
theorem d_W_law_324 : decode b_W_law 324 = .ok (.iconst 0, 1) := by decide +kernel
theorem d_W_law_325 : decode b_W_law 325 = .ok (.ireturn, 1) := by decide +kernel
theorem d_W_law_326 : decode b_W_law 326 = .ok (.aload_n 1, 1) := by decide +kernel
theorem d_W_law_327 : decode b_W_law 327 = .ok (.aload_n 0, 1) := by decide +kernel
theorem d_W_law_328 : decode b_W_law 328 = .ok (.iload_n 3, 1) := by decide +kernel
theorem d_W_law_329 : decode b_W_law 329 = .ok (.iconst 1, 1) := by decide +kernel
theorem d_W_law_330 : decode b_W_law 330 = .ok (.iadd, 1) := by decide +kernel
theorem d_W_law_331 : decode b_W_law 331 = .ok (.iaload, 1) := by decide +kernel
theorem d_W_law_332 : decode b_W_law 332 = .ok (.aload_n 0, 1) := by decide +kernel
theorem d_W_law_333 : decode b_W_law 333 = .ok (.iload_n 3, 1) := by decide +kernel
theorem d_W_law_334 : decode b_W_law 334 = .ok (.iconst 2, 1) := by decide +kernel
theorem d_W_law_335 : decode b_W_law 335 = .ok (.iadd, 1) := by decide +kernel
theorem d_W_law_336 : decode b_W_law 336 = .ok (.iaload, 1) := by decide +kernel
theorem d_W_law_337 : decode b_W_law 337 = .ok (.invokevirtual 51, 3) := by decide +kernel
theorem d_W_law_340 : decode b_W_law 340 = .ok (.aload_n 2, 1) := by decide +kernel
theorem d_W_law_341 : decode b_W_law 341 = .ok (.aload_n 0, 1) := by decide +kernel
theorem d_W_law_342 : decode b_W_law 342 = .ok (.iload_n 3, 1) := by decide +kernel
theorem d_W_law_343 : decode b_W_law 343 = .ok (.iconst 1, 1) := by decide +kernel
theorem d_W_law_344 : decode b_W_law 344 = .ok (.iadd, 1) := by decide +kernel
theorem d_W_law_345 : decode b_W_law 345 = .ok (.iaload, 1) := by decide +kernel
theorem d_W_law_346 : decode b_W_law 346 = .ok (.aload_n 0, 1) := by decide +kernel
theorem d_W_law_347 : decode b_W_law 347 = .ok (.iload_n 3, 1) := by decide +kernel
theorem d_W_law_348 : decode b_W_law 348 = .ok (.iconst 2, 1) := by decide +kernel
theorem d_W_law_349 : decode b_W_law 349 = .ok (.iadd, 1) := by decide +kernel
theorem d_W_law_350 : decode b_W_law 350 = .ok (.iaload, 1) := by decide +kernel
theorem d_W_law_351 : decode b_W_law 351 = .ok (.invokevirtual 55, 3) := by decide +kernel
theorem d_W_law_354 : decode b_W_law 354 = .ok (.if_icmp .eq 172, 3) := by decide +kernel
theorem d_W_law_357 : decode b_W_law 357 = .ok (.iconst 0, 1) := by decide +kernel
theorem d_W_law_358 : decode b_W_law 358 = .ok (.ireturn, 1) := by decide +kernel
theorem d_W_law_359 : decode b_W_law 359 = .ok (.aload_n 1, 1) := by decide +kernel
theorem d_W_law_360 : decode b_W_law 360 = .ok (.aload_n 0, 1) := by decide +kernel
theorem d_W_law_361 : decode b_W_law 361 = .ok (.iload_n 3, 1) := by decide +kernel
theorem d_W_law_362 : decode b_W_law 362 = .ok (.iconst 1, 1) := by decide +kernel
theorem d_W_law_363 : decode b_W_law 363 = .ok (.iadd, 1) := by decide +kernel
theorem d_W_law_364 : decode b_W_law 364 = .ok (.iaload, 1) := by decide +kernel
theorem d_W_law_365 : decode b_W_law 365 = .ok (.invokevirtual 56, 3) := by decide +kernel
theorem d_W_law_368 : decode b_W_law 368 = .ok (.aload_n 2, 1) := by decide +kernel
theorem d_W_law_369 : decode b_W_law 369 = .ok (.aload_n 0, 1) := by decide +kernel
theorem d_W_law_370 : decode b_W_law 370 = .ok (.iload_n 3, 1) := by decide +kernel
theorem d_W_law_371 : decode b_W_law 371 = .ok (.iconst 1, 1) := by decide +kernel
theorem d_W_law_372 : decode b_W_law 372 = .ok (.iadd, 1) := by decide +kernel
theorem d_W_law_373 : decode b_W_law 373 = .ok (.iaload, 1) := by decide +kernel
theorem d_W_law_374 : decode b_W_law 374 = .ok (.invokevirtual 59, 3) := by decide +kernel
theorem d_W_law_377 : decode b_W_law 377 = .ok (.if_icmp .eq 149, 3) := by decide +kernel
theorem d_W_law_380 : decode b_W_law 380 = .ok (.iconst 0, 1) := by decide +kernel
theorem d_W_law_381 : decode b_W_law 381 = .ok (.ireturn, 1) := by decide +kernel
theorem d_W_law_382 : decode b_W_law 382 = .ok (.aload_n 1, 1) := by decide +kernel
theorem d_W_law_383 : decode b_W_law 383 = .ok (.aload_n 0, 1) := by decide +kernel
theorem d_W_law_384 : decode b_W_law 384 = .ok (.iload_n 3, 1) := by decide +kernel
theorem d_W_law_385 : decode b_W_law 385 = .ok (.iconst 1, 1) := by decide +kernel
theorem d_W_law_386 : decode b_W_law 386 = .ok (.iadd, 1) := by decide +kernel
theorem d_W_law_387 : decode b_W_law 387 = .ok (.iaload, 1) := by decide +kernel
theorem d_W_law_388 : decode b_W_law 388 = .ok (.invokevirtual 60, 3) := by decide +kernel
theorem d_W_law_391 : decode b_W_law 391 = .ok (.aload_n 2, 1) := by decide +kernel
theorem d_W_law_392 : decode b_W_law 392 = .ok (.aload_n 0, 1) := by decide +kernel
theorem d_W_law_393 : decode b_W_law 393 = .ok (.iload_n 3, 1) := by decide +kernel
theorem d_W_law_394 : decode b_W_law 394 = .ok (.iconst 1, 1) := by decide +kernel
theorem d_W_law_395 : decode b_W_law 395 = .ok (.iadd, 1) := by decide +kernel
theorem d_W_law_396 : decode b_W_law 396 = .ok (.iaload, 1) := by decide +kernel
theorem d_W_law_397 : decode b_W_law 397 = .ok (.invokevirtual 63, 3) := by decide +kernel
theorem d_W_law_400 : decode b_W_law 400 = .ok (.if_icmp .eq 126, 3) := by decide +kernel
theorem d_W_law_403 : decode b_W_law 403 = .ok (.iconst 0, 1) := by decide +kernel
theorem d_W_law_404 : decode b_W_law 404 = .ok (.ireturn, 1) := by decide +kernel
theorem d_W_law_405 : decode b_W_law 405 = .ok (.aload_n 1, 1) := by decide +kernel
theorem d_W_law_406 : decode b_W_law 406 = .ok (.invokevirtual 64, 3) := by decide +kernel
theorem d_W_law_409 : decode b_W_law 409 = .ok (.aload_n 2, 1) := by decide +kernel
theorem d_W_law_410 : decode b_W_law 410 = .ok (.invokevirtual 67, 3) := by decide +kernel
theorem d_W_law_413 : decode b_W_law 413 = .ok (.if_icmp .eq 113, 3) := by decide +kernel
theorem d_W_law_416 : decode b_W_law 416 = .ok (.iconst 0, 1) := by decide +kernel
theorem d_W_law_417 : decode b_W_law 417 = .ok (.ireturn, 1) := by decide +kernel
theorem d_W_law_418 : decode b_W_law 418 = .ok (.aload_n 1, 1) := by decide +kernel
theorem d_W_law_419 : decode b_W_law 419 = .ok (.invokevirtual 68, 3) := by decide +kernel
theorem d_W_law_422 : decode b_W_law 422 = .ok (.aload_n 2, 1) := by decide +kernel
theorem d_W_law_423 : decode b_W_law 423 = .ok (.invokevirtual 71, 3) := by decide +kernel
theorem d_W_law_426 : decode b_W_law 426 = .ok (.if_icmp .eq 100, 3) := by decide +kernel
theorem d_W_law_429 : decode b_W_law 429 = .ok (.iconst 0, 1) := by decide +kernel
theorem d_W_law_430 : decode b_W_law 430 = .ok (.ireturn, 1) := by decide +kernel
theorem d_W_law_431 : decode b_W_law 431 = .ok (.aload_n 1, 1) := by decide +kernel
theorem d_W_law_432 : decode b_W_law 432 = .ok (.invokevirtual 72, 3) := by decide +kernel
theorem d_W_law_435 : decode b_W_law 435 = .ok (.aload_n 2, 1) := by decide +kernel
theorem d_W_law_436 : decode b_W_law 436 = .ok (.invokevirtual 75, 3) := by decide +kernel
theorem d_W_law_439 : decode b_W_law 439 = .ok (.if_icmp .eq 87, 3) := by decide +kernel
theorem d_W_law_442 : decode b_W_law 442 = .ok (.iconst 0, 1) := by decide +kernel
theorem d_W_law_443 : decode b_W_law 443 = .ok (.ireturn, 1) := by decide +kernel
theorem d_W_law_444 : decode b_W_law 444 = .ok (.aload_n 1, 1) := by decide +kernel
theorem d_W_law_445 : decode b_W_law 445 = .ok (.aload_n 0, 1) := by decide +kernel
theorem d_W_law_446 : decode b_W_law 446 = .ok (.iload_n 3, 1) := by decide +kernel
theorem d_W_law_447 : decode b_W_law 447 = .ok (.iconst 1, 1) := by decide +kernel
theorem d_W_law_448 : decode b_W_law 448 = .ok (.iadd, 1) := by decide +kernel
theorem d_W_law_449 : decode b_W_law 449 = .ok (.iaload, 1) := by decide +kernel
theorem d_W_law_450 : decode b_W_law 450 = .ok (.aload_n 0, 1) := by decide +kernel
theorem d_W_law_451 : decode b_W_law 451 = .ok (.iload_n 3, 1) := by decide +kernel
theorem d_W_law_452 : decode b_W_law 452 = .ok (.iconst 2, 1) := by decide +kernel
theorem d_W_law_453 : decode b_W_law 453 = .ok (.iadd, 1) := by decide +kernel
theorem d_W_law_454 : decode b_W_law 454 = .ok (.iaload, 1) := by decide +kernel
theorem d_W_law_455 : decode b_W_law 455 = .ok (.invokevirtual 76, 3) := by decide +kernel
theorem d_W_law_458 : decode b_W_law 458 = .ok (.aload_n 2, 1) := by decide +kernel
theorem d_W_law_459 : decode b_W_law 459 = .ok (.aload_n 0, 1) := by decide +kernel
theorem d_W_law_460 : decode b_W_law 460 = .ok (.iload_n 3, 1) := by decide +kernel
theorem d_W_law_461 : decode b_W_law 461 = .ok (.iconst 1, 1) := by decide +kernel
theorem d_W_law_462 : decode b_W_law 462 = .ok (.iadd, 1) := by decide +kernel
theorem d_W_law_463 : decode b_W_law 463 = .ok (.iaload, 1) := by decide +kernel
theorem d_W_law_464 : decode b_W_law 464 = .ok (.aload_n 0, 1) := by decide +kernel
theorem d_W_law_465 : decode b_W_law 465 = .ok (.iload_n 3, 1) := by decide +kernel
theorem d_W_law_466 : decode b_W_law 466 = .ok (.iconst 2, 1) := by decide +kernel
theorem d_W_law_467 : decode b_W_law 467 = .ok (.iadd, 1) := by decide +kernel
theorem d_W_law_468 : decode b_W_law 468 = .ok (.iaload, 1) := by decide +kernel
theorem d_W_law_469 : decode b_W_law 469 = .ok (.invokevirtual 79, 3) := by decide +kernel
theorem d_W_law_472 : decode b_W_law 472 = .ok (.if_icmp .eq 54, 3) := by decide +kernel
theorem d_W_law_475 : decode b_W_law 475 = .ok (.iconst 0, 1) := by decide +kernel
theorem d_W_law_476 : decode b_W_law 476 = .ok (.ireturn, 1) := by decide +kernel
theorem d_W_law_477 : decode b_W_law 477 = .ok (.aload_n 1, 1) := by decide +kernel
theorem d_W_law_478 : decode b_W_law 478 = .ok (.invokevirtual 80, 3) := by decide +kernel
theorem d_W_law_481 : decode b_W_law 481 = .ok (.aload_n 2, 1) := by decide +kernel
theorem d_W_law_482 : decode b_W_law 482 = .ok (.invokevirtual 83, 3) := by decide +kernel
theorem d_W_law_485 : decode b_W_law 485 = .ok (.if_icmp .eq 41, 3) := by decide +kernel
theorem d_W_law_488 : decode b_W_law 488 = .ok (.iconst 0, 1) := by decide +kernel
theorem d_W_law_489 : decode b_W_law 489 = .ok (.ireturn, 1) := by decide +kernel
theorem d_W_law_490 : decode b_W_law 490 = .ok (.aload_n 1, 1) := by decide +kernel
theorem d_W_law_491 : decode b_W_law 491 = .ok (.aload_n 0, 1) := by decide +kernel
theorem d_W_law_492 : decode b_W_law 492 = .ok (.iload_n 3, 1) := by decide +kernel
theorem d_W_law_493 : decode b_W_law 493 = .ok (.iconst 1, 1) := by decide +kernel
theorem d_W_law_494 : decode b_W_law 494 = .ok (.iadd, 1) := by decide +kernel
theorem d_W_law_495 : decode b_W_law 495 = .ok (.iaload, 1) := by decide +kernel
theorem d_W_law_496 : decode b_W_law 496 = .ok (.invokevirtual 84, 3) := by decide +kernel
theorem d_W_law_499 : decode b_W_law 499 = .ok (.aload_n 2, 1) := by decide +kernel
theorem d_W_law_500 : decode b_W_law 500 = .ok (.aload_n 0, 1) := by decide +kernel
theorem d_W_law_501 : decode b_W_law 501 = .ok (.iload_n 3, 1) := by decide +kernel
theorem d_W_law_502 : decode b_W_law 502 = .ok (.iconst 1, 1) := by decide +kernel
theorem d_W_law_503 : decode b_W_law 503 = .ok (.iadd, 1) := by decide +kernel
theorem d_W_law_504 : decode b_W_law 504 = .ok (.iaload, 1) := by decide +kernel
theorem d_W_law_505 : decode b_W_law 505 = .ok (.invokevirtual 87, 3) := by decide +kernel
theorem d_W_law_508 : decode b_W_law 508 = .ok (.if_icmp .eq 18, 3) := by decide +kernel
theorem d_W_law_511 : decode b_W_law 511 = .ok (.iconst 0, 1) := by decide +kernel
theorem d_W_law_512 : decode b_W_law 512 = .ok (.ireturn, 1) := by decide +kernel
theorem d_W_law_513 : decode b_W_law 513 = .ok (.aload_n 1, 1) := by decide +kernel
theorem d_W_law_514 : decode b_W_law 514 = .ok (.invokevirtual 88, 3) := by decide +kernel
theorem d_W_law_517 : decode b_W_law 517 = .ok (.aload_n 2, 1) := by decide +kernel
theorem d_W_law_518 : decode b_W_law 518 = .ok (.invokevirtual 91, 3) := by decide +kernel
theorem d_W_law_521 : decode b_W_law 521 = .ok (.if_icmp .eq 5, 3) := by decide +kernel
theorem d_W_law_524 : decode b_W_law 524 = .ok (.iconst 0, 1) := by decide +kernel
theorem d_W_law_525 : decode b_W_law 525 = .ok (.ireturn, 1) := by decide +kernel
theorem d_W_law_526 : decode b_W_law 526 = .ok (.iinc 3 4, 3) := by decide +kernel
theorem d_W_law_529 : decode b_W_law 529 = .ok (.goto (-491), 3) := by decide +kernel
theorem d_W_law_532 : decode b_W_law 532 = .ok (.iconst 1, 1) := by decide +kernel
theorem d_W_law_533 : decode b_W_law 533 = .ok (.ireturn, 1) := by decide +kernel
